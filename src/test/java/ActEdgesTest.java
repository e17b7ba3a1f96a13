/** The document's sentences on ACTS that name a boundary case, one by one: "3. Acts" and the promises 1 to 15. */
public final class ActEdgesTest extends Checks {
    private static final String STILL_CELLS = "0 1 2 3, 0 1 2 3, 0 1 2 3, 0 1 2 3, 0 1 2 3, 0 1 2 3";

    public static void main(String[] args) {
        actsThatLeaveAllAsItWas();
        actsThatChangeSomething();
        actsThatTellMinusNine();
        actsThatThrow();
        allOtherMethods();
        exceptionsGoFirst();
        theOneNamedFirst();
        newObject();
        points();
        pointsLeavesNothingBehind();
        lay();
        exchange();
        exchangeOfTheSame();
        ring();
        ringOfTheSame();
        turn();
        mirror();
        copy();
        swap();
        then();
        undo();
        power();
        powerAtItsBounds();
        rename();
        match();
        matchThatCanNotBe();
        nth();
        nthThatCanNotBe();
        finish("ActEdgesTest");
    }

    // 3. Acts

    private static void actsThatLeaveAllAsItWas() {
        says(0, "Each other call of an ACT is counted as done, also if all stays as it was");
        Swaphouse x = new Swaphouse();
        Call[] acts = {() -> x.points(4), () -> x.lay(0, 0), () -> x.exchange(1, 2, 2), () -> x.turn(2, 0),
            () -> x.turn(2, 4), () -> x.turn(2, -100), () -> x.copy(0, 1), () -> x.copy(2, 2), () -> x.swap(0, 1),
            () -> x.swap(3, 3), () -> x.then(0, 1, 2), () -> x.then(4, 4, 4), () -> x.undo(0, 1), () -> x.undo(5, 5),
            () -> x.power(0, 0, 0), () -> x.power(0, 1000, 1), () -> x.rename(0, 1, 2), () -> x.rename(3, 3, 3),
            () -> x.match(0, 1, 2), () -> x.match(4, 4, 4), () -> x.nth(0, 0, 0, 0), () -> x.nth(63, 5, 0, 5)};
        for (int i = 0; i < acts.length; i++) {
            acts[i].make();
            same("house", house(x), i + 1 + " 0 0");
            same("texts", texts(x), STILL_CELLS);
        }
    }

    private static void actsThatChangeSomething() {
        says(0, "Each other call of an ACT is counted as done");
        Swaphouse x = new Swaphouse();
        Call[] acts = {() -> x.lay(0, 1), () -> x.exchange(1, 0, 1), () -> x.ring(2, 0, 1, 2), () -> x.turn(3, 1),
            () -> x.mirror(4), () -> x.copy(0, 5), () -> x.swap(0, 1), () -> x.then(2, 3, 0), () -> x.undo(2, 2),
            () -> x.power(3, 2, 5), () -> x.rename(2, 3, 1), () -> x.match(1, 2, 5), () -> x.nth(8, 0, 1, 2),
            () -> x.points(3)};
        for (int i = 0; i < acts.length; i++) {
            String before = texts(x);
            acts[i].make();
            same("house", house(x), i + 1 + " 0 0");
            same("act " + i + " changed a move", !texts(x).equals(before), true);
        }
    }

    private static void actsThatTellMinusNine() {
        says(0, "nothing is changed then, but that it is counted (house() by 1)");
        Swaphouse x = square();
        x.knock();
        String before = texts(x);
        for (int i = 0; i < 6; i++) {
            same("match", x.match(0, 1, i), -9);
            same("house", house(x), "2 " + (2 * i + 1) + " 1");
            same("nth", x.nth(3, i, 8, i), -9);
            same("house", house(x), "2 " + (2 * i + 2) + " 1");
            same("texts", texts(x), before);
        }
        same("count", x.count(), 4);
    }

    private static void actsThatThrow() {
        says(0, "one that threw is not counted; a method that throws an exception changes nothing");
        Swaphouse x = square();
        x.match(0, 1, 2);
        x.knock();
        String before = texts(x);
        Call[] acts = {() -> x.points(8), () -> x.lay(0, 24), () -> x.exchange(0, 0, 4), () -> x.exchange(0, 4, 0),
            () -> x.ring(0, 0, 1, 1), () -> x.ring(0, 0, 1, 4), () -> x.turn(0, 101), () -> x.mirror(6),
            () -> x.copy(0, 6), () -> x.swap(0, 6), () -> x.swap(6, 0), () -> x.then(0, 1, 6), () -> x.undo(0, 6),
            () -> x.power(0, 1001, 1), () -> x.power(0, 2, 6), () -> x.rename(0, 1, 6), () -> x.match(0, 0, 6),
            () -> x.match(0, 1, 6), () -> x.nth(3, 0, 1, 6), () -> x.nth(3, 0, -1, 1), () -> x.nth(3, 0, 8, 6)};
        for (int i = 0; i < acts.length; i++) {
            boolean threw = false;
            try {
                acts[i].make();
            } catch (RuntimeException e) {
                threw = true;
            }
            same("whether act " + i + " threw", threw, true);
            same("house", house(x), "2 1 1");
            same("texts", texts(x), before);
        }
        same("count", x.count(), 4);
    }

    private static void allOtherMethods() {
        says(0, "All other methods but knock() change nothing; a -9 of theirs is not counted");
        Swaphouse x = square();
        String before = texts(x);
        Call[] questions = {() -> x.count(), () -> x.number(0), () -> x.goes(0, 1), () -> x.text(0), () -> x.rings(0),
            () -> x.ringText(0, 1), () -> x.order(0), () -> x.sign(0), () -> x.stays(0), () -> x.areAlike(0, 1),
            () -> x.commute(0, 1), () -> x.size(3, 0), () -> x.reach(3, 0, 1), () -> x.isIn(3, 0, 0),
            () -> x.isIn(3, 0, 1), () -> x.rank(3, 0, 1), () -> x.rank(1, 0, 1), () -> x.list(3, 0),
            () -> x.list(3, 8), () -> x.comes(3, 0), () -> x.pieces(3), () -> x.withOrder(3, 2), () -> x.even(3),
            () -> x.colourings(3, 3, 0), () -> x.colourings(3, 3, 1), () -> x.isPart(1, 3), () -> x.shares(1, 3),
            () -> x.shares(3, 1), () -> x.share(1, 1), () -> x.together(3, 0, 2), () -> x.blocks(3, 0, 2),
            () -> x.isTwofold(3), () -> x.enough(63), () -> x.house(0), () -> x.isSound(), () -> x.digest()};
        for (int i = 0; i < questions.length; i++) {
            questions[i].make();
            same("house behind question " + i, house(x), "2 0 0");
            same("texts behind question " + i, texts(x), before);
        }
        same("shares, which is no ACT", x.shares(3, 1), -9);
        same("house", house(x), "2 0 0");
        x.knock();
        same("house", house(x), "2 0 1");
        same("texts", texts(x), before);
    }

    private static void exceptionsGoFirst() {
        says(0, "exceptions go ahead of -9");
        Swaphouse x = square();
        same("match", x.match(0, 1, 2), -9);
        refusesCells(x, into -> x.match(0, 1, into));
        same("nth", x.nth(3, 5, 8, 2), -9);
        refusesCells(x, row -> x.nth(3, row, 8, 2));
        refusesCells(x, into -> x.nth(3, 5, 8, into));
        refusesSets(x, set -> x.nth(set, 5, GREATEST, 2));
        same("shares", x.shares(1, 2), -9);
        refusesSets(x, set -> x.shares(set, 2));
        refusesSets(x, whole -> x.shares(1, whole));
        same("house", house(x), "2 2 0");
    }

    private static void theOneNamedFirst() {
        says(0, "If several exceptions apply, the one that is named first is thrown");
        Swaphouse x = square();
        Call[] calls = {() -> x.lay(6, 24), () -> x.lay(-1, -1), () -> x.ring(6, 1, 1, 2), () -> x.ring(0, 4, 1, 1),
            () -> x.ring(0, 1, 4, 1), () -> x.ring(0, 1, 1, 4), () -> x.ring(0, 4, 4, 4), () -> x.ring(0, -1, -1, 2),
            () -> x.turn(6, 101), () -> x.turn(-1, -101), () -> x.power(6, 1001, 0), () -> x.power(0, -1001, -1),
            () -> x.nth(64, 6, 0, 0), () -> x.nth(64, 0, 0, 6), () -> x.nth(0, 6, -1, 0), () -> x.nth(0, 0, -1, 6),
            () -> x.nth(-1, -1, -1, -1), () -> x.size(64, 6), () -> x.size(-1, -1), () -> x.reach(64, 6, 0),
            () -> x.reach(64, 0, 4), () -> x.reach(-1, 0, -1), () -> x.isIn(64, 6, 0), () -> x.isIn(0, 6, 2),
            () -> x.isIn(-1, -1, -1), () -> x.rank(64, 6, 0), () -> x.rank(64, 0, 6), () -> x.rank(-1, -1, -1),
            () -> x.comes(64, 4), () -> x.comes(-1, -1), () -> x.share(64, 6), () -> x.share(-1, -1),
            () -> x.together(64, 4, 0), () -> x.together(64, 0, 4), () -> x.together(-1, -1, -1),
            () -> x.blocks(64, 4, 0), () -> x.blocks(64, 0, 4), () -> x.blocks(-1, -1, -1)};
        for (Call call : calls) {
            refuses(x, INDEX, call);
        }
    }

    // The promises 1 to 15

    private static void newObject() {
        says(1, "Creates four points, and six moves that are still");
        Swaphouse x = new Swaphouse();
        same("count", x.count(), 4);
        same("texts", texts(x), STILL_CELLS);
        same("house", house(x), "0 0 0");
        same("size of all cells", x.size(63, 0), 1);
        says(1, "each object by itself");
        Swaphouse other = allMoves(7);
        other.isSound();
        same("size of the other one", other.size(63, 0), 5040);
        same("size of the first one", x.size(63, 0), 1);
        same("size of the other one", other.size(63, 0), 5040);
        same("texts of the first one", texts(x), STILL_CELLS);
        same("house of the first one", house(x), "0 0 0");
    }

    private static void points() {
        for (int had = 2; had <= 7; had++) {
            for (int many = 2; many <= 7; many++) {
                says(2, "There are so many POINTS from now on; all CELLS are STILL");
                Swaphouse x = withPoints(had);
                for (int cell = 0; cell < 6; cell++) {
                    x.turn(cell, 1);
                }
                same("points", x.points(many), had);
                same("count", x.count(), many);
                for (int cell = 0; cell < 6; cell++) {
                    same("text", x.text(cell), "0 1 2 3 4 5 6".substring(0, 2 * many - 1));
                }
                same("house", house(x), "8 0 0");
            }
        }
        says(2, "Throws IllegalArgumentException if many is not 2 to 7");
        Swaphouse x = allMoves(7);
        refusesEach(x, ARGUMENT, new int[] {LEAST, -7, -2, -1, 0, 1, 8, 9, GREATEST}, x::points);
        same("points", x.points(2), 7);
        same("points", x.points(7), 2);
    }

    /** All that is asked of a SET behind points() is as if no other points had been there. */
    private static void pointsLeavesNothingBehind() {
        says(2, "all CELLS are STILL: nothing is left of what was asked and laid before");
        String[] asked = {"size 63 0", "list 63 0", "list 63 1", "pieces 63", "even 63", "enough 63", "isTwofold 63",
            "colourings 63 2 0", "colourings 63 2 1", "colourings 63 3 1", "withOrder 63 1", "withOrder 63 2",
            "comes 63 1", "together 63 0 1", "blocks 63 0 1", "reach 63 0 0", "reach 63 0 1", "rank 63 0 0",
            "isIn 63 5 0", "isIn 63 5 1", "share 63 0", "shares 0 63", "digest"};
        for (int had = 2; had <= 7; had++) {
            for (int many = 2; many <= 7; many++) {
                Swaphouse x = allMoves(had);
                Swaphouse fresh = withPoints(many);
                fresh.turn(0, 0);
                fresh.turn(0, 0);
                fresh.turn(0, 0);
                askEach(x, asked);
                x.points(many);
                same("answers", askEach(x, asked), askEach(fresh, asked));
            }
        }
    }

    private static String askEach(Swaphouse x, String[] questions) {
        StringBuilder answers = new StringBuilder();
        for (String question : questions) {
            String[] words = question.split(" ");
            int[] values = new int[words.length - 1];
            for (int i = 0; i < values.length; i++) {
                values[i] = Integer.parseInt(words[i + 1]);
            }
            answers.append(question).append(" = ").append(answer(x, words[0], values)).append("; ");
        }
        return answers.toString();
    }

    private static void lay() {
        for (int many = 2; many <= 7; many++) {
            int last = factorial(many) - 1;
            Swaphouse x = withPoints(many);
            says(3, "A CELL gets the MOVE with a NUMBER: 0 to N! - 1");
            same("lay of the last one", x.lay(5, last), 0);
            same("text", x.text(5), "6 5 4 3 2 1 0".substring(2 * (7 - many)));
            same("lay of the last one again", x.lay(5, last), last);
            same("lay of the first one", x.lay(5, 0), last);
            same("text", x.text(5), "0 1 2 3 4 5 6".substring(0, 2 * many - 1));
            same("house", house(x), "4 0 0");
            says(3, "Throws IllegalArgumentException if number is not 0 to N! - 1");
            refusesEach(x, ARGUMENT, new int[] {LEAST, -2, -1, last + 1, last + 2, 5040, GREATEST}, k -> x.lay(0, k));
        }
        says(3, "Throws IndexOutOfBoundsException if cell is not 0 to 5");
        Swaphouse x = new Swaphouse();
        refusesCells(x, cell -> x.lay(cell, 1));
        for (int cell = 0; cell < 6; cell++) {
            same("lay", x.lay(cell, cell + 1), 0);
            same("number", x.number(cell), cell + 1);
        }
    }

    private static void exchange() {
        says(4, "two POINTS to each other, and all others to themselves");
        for (int many = 2; many <= 7; many++) {
            Swaphouse x = withPoints(many);
            int last = many - 1;
            same("exchange of the first and the last one", x.exchange(0, 0, last), -1);
            same("exchange of the last and the first one", x.exchange(1, last, 0), -1);
            same("goes", x.goes(0, 0), last);
            same("goes", x.goes(0, last), 0);
            same("number", x.number(1), x.number(0));
            same("stays", x.stays(0), (1 << many) - 1 - 1 - (1 << last));
            same("exchange back", x.exchange(0, last, 0), 1);
            same("number", x.number(0), 0);
            refusesEach(x, INDEX, new int[] {LEAST, -1, many, many + 1, GREATEST}, point -> x.exchange(0, point, 0));
            refusesEach(x, INDEX, new int[] {LEAST, -1, many, many + 1, GREATEST}, point -> x.exchange(0, 0, point));
            refusesEach(x, INDEX, new int[] {LEAST, -1, many, GREATEST}, point -> x.exchange(0, point, point));
        }
    }

    private static void exchangeOfTheSame() {
        says(4, "another one, or the same (then nothing is another one than it was)");
        for (int many = 2; many <= 7; many++) {
            Swaphouse x = withPoints(many);
            x.exchange(1, 0, 1);
            for (int point = 0; point < many; point++) {
                same("exchange: the SIGN of what is still", x.exchange(0, point, point), 1);
                same("exchange: the SIGN that it had", x.exchange(1, point, point), -1);
                same("number", x.number(0), 0);
                same("stays", x.stays(1), (1 << many) - 4);
            }
            same("house", house(x), 2 + 2 * many + " 0 0");
        }
    }

    private static void ring() {
        says(5, "one to other, other to third, third to one, and all others to themselves");
        for (int many = 3; many <= 7; many++) {
            Swaphouse x = withPoints(many);
            int last = many - 1;
            same("ring", x.ring(0, last, 0, 1), 1);
            same("goes", x.goes(0, last), 0);
            same("goes", x.goes(0, 0), 1);
            same("goes", x.goes(0, 1), last);
            same("stays", x.stays(0), (1 << last) - 4);
            x.ring(1, 0, 1, last);
            x.ring(2, 1, last, 0);
            same("number of the same ring told from another point", x.number(1), x.number(0));
            same("number of the same ring told from another point", x.number(2), x.number(0));
            x.ring(0, 0, 1, last);
            x.ring(0, 0, 1, last);
            same("number behind the third time", x.number(0), 0);
            int[] none = {LEAST, -1, many, GREATEST};
            refusesEach(x, INDEX, none, point -> x.ring(0, point, 0, 1));
            refusesEach(x, INDEX, none, point -> x.ring(0, 0, point, 1));
            refusesEach(x, INDEX, none, point -> x.ring(0, 0, 1, point));
        }
    }

    private static void ringOfTheSame() {
        says(5, "Throws IllegalArgumentException if two of the three are the same");
        for (int many = 2; many <= 7; many++) {
            Swaphouse x = withPoints(many);
            int last = many - 1;
            refuses(x, ARGUMENT, () -> x.ring(0, 0, 0, last));
            refuses(x, ARGUMENT, () -> x.ring(0, 0, last, 0));
            refuses(x, ARGUMENT, () -> x.ring(0, last, 0, 0));
            refuses(x, ARGUMENT, () -> x.ring(0, last, last, last));
        }
        says(5, "of two POINTS no three are unlike");
        Swaphouse two = withPoints(2);
        for (int k = 0; k < 8; k++) {
            int one = k & 1;
            int other = k >> 1 & 1;
            int third = k >> 2;
            refuses(two, ARGUMENT, () -> two.ring(0, one, other, third));
        }
    }

    private static void turn() {
        says(6, "what remains of p + by divided by N (0 to N - 1, also with by below 0)");
        for (int many = 2; many <= 7; many++) {
            Swaphouse x = withPoints(many);
            for (int by = -100; by <= 100; by++) {
                int steps = (by + 840) % many;
                x.lay(0, 0);
                int odd = steps == 0 ? 0 : many - commonDivisor(steps, many);
                same("turn by " + by, x.turn(0, by), odd % 2 == 0 ? 1 : -1);
                if (by < -95 || by > 95 || by * by < 64) {
                    same("text", x.text(0), "0 1 2 3 4 5 6 ".substring(2 * steps, 2 * many)
                            .concat("0 1 2 3 4 5 6 ".substring(0, 2 * steps)).trim());
                }
            }
        }
        says(6, "Throws IllegalArgumentException if by is not -100 to 100");
        Swaphouse x = new Swaphouse();
        refusesEach(x, ARGUMENT, new int[] {LEAST, -102, -101, 101, 102, GREATEST}, by -> x.turn(0, by));
        same("turn", x.turn(0, 97), -1);
        same("turn on", x.turn(0, -98), -1);
        same("text", x.text(0), "3 0 1 2");
    }

    private static int commonDivisor(int a, int b) {
        return b == 0 ? a : commonDivisor(b, a % b);
    }

    private static void mirror() {
        says(7, "each POINT p to N - 1 - p");
        for (int many = 2; many <= 7; many++) {
            Swaphouse x = withPoints(many);
            int sign = many / 2 % 2 == 0 ? 1 : -1;
            same("mirror", x.mirror(5), sign);
            for (int p = 0; p < many; p++) {
                same("goes", x.goes(5, p), many - 1 - p);
            }
            same("stays: the one in the middle alone", x.stays(5), many % 2 == 0 ? 0 : 1 << many / 2);
            same("mirror back", x.mirror(5), 1);
            same("number", x.number(5), 0);
        }
        says(7, "Throws IndexOutOfBoundsException if cell is not 0 to 5");
        Swaphouse x = new Swaphouse();
        refusesCells(x, x::mirror);
    }

    private static void copy() {
        says(8, "Returns 1 if it had another MOVE, otherwise 0");
        Swaphouse x = square();
        same("copy into itself", x.copy(0, 0), 0);
        same("text", x.text(0), "1 2 3 0");
        same("copy of another one", x.copy(0, 5), 1);
        same("copy of the same one", x.copy(0, 5), 0);
        same("copy back", x.copy(5, 0), 0);
        same("copy of what is still", x.copy(2, 3), 0);
        same("copy of what is still", x.copy(2, 5), 1);
        same("texts", texts(x), "1 2 3 0, 3 2 1 0, 0 1 2 3, 0 1 2 3, 0 1 2 3, 0 1 2 3");
        same("house", house(x), "8 0 0");
    }

    private static void swap() {
        says(9, "Returns 1 if these are unlike, otherwise 0");
        Swaphouse x = square();
        same("swap", x.swap(0, 5), 1);
        same("texts", texts(x), "0 1 2 3, 3 2 1 0, 0 1 2 3, 0 1 2 3, 0 1 2 3, 1 2 3 0");
        same("swap the other way round", x.swap(0, 5), 1);
        same("texts", texts(x), "1 2 3 0, 3 2 1 0, 0 1 2 3, 0 1 2 3, 0 1 2 3, 0 1 2 3");
        x.copy(0, 4);
        same("swap of two with the same move", x.swap(4, 0), 0);
        says(9, "a CELL, perhaps the same");
        for (int cell = 0; cell < 6; cell++) {
            same("swap", x.swap(cell, cell), 0);
        }
        same("texts", texts(x), "1 2 3 0, 3 2 1 0, 0 1 2 3, 0 1 2 3, 1 2 3 0, 0 1 2 3");
        same("house", house(x), "12 0 0");
    }

    private static void then() {
        says(10, "the MOVE of one, then that of other, with a CELL named twice");
        Swaphouse x = new Swaphouse();
        x.ring(0, 0, 1, 2);
        x.exchange(1, 2, 3);
        same("then", x.then(0, 1, 2), 10);
        same("text", x.text(2), "1 3 0 2");
        x.copy(0, 3);
        same("then of one and itself into another", x.then(3, 3, 4), 12);
        same("then into the first", x.then(3, 1, 3), 10);
        x.copy(1, 3);
        same("then into the other", x.then(0, 3, 3), 10);
        x.copy(0, 3);
        same("then, all three the same", x.then(3, 3, 3), 12);
        same("then of what is still first", x.then(5, 0, 3), 8);
        same("then of what is still last", x.then(0, 5, 3), 8);
        same("texts", texts(x), "1 2 0 3, 0 1 3 2, 1 3 0 2, 1 2 0 3, 2 0 1 3, 0 1 2 3");
    }

    private static void undo() {
        says(11, "the UNDONE one of A is the MOVE B with which A, then B, is STILL");
        for (int many = 2; many <= 7; many++) {
            Swaphouse x = withPoints(many);
            same("undo of what is still", x.undo(0, 5), 0);
            x.exchange(0, 0, many - 1);
            same("undo of an exchange", x.undo(0, 1), x.number(0));
            x.turn(2, 1);
            same("undo", x.undo(2, 3), factorial(many) - factorial(many - 1));
            same("then", x.then(2, 3, 4), 0);
            same("then the other way round", x.then(3, 2, 4), 0);
            x.undo(2, 2);
            same("number behind an undo into itself", x.number(2), x.number(3));
        }
    }

    private static void power() {
        says(12, "0 times: STILL; below 0: its UNDONE one as many times, without the sign");
        for (int many = 2; many <= 7; many++) {
            Swaphouse x = withPoints(many);
            x.turn(0, 1);
            int[] timesEach = {0, 1, -1, 2, -2, many, -many, many + 1, -many - 1, 999, -999, 1000, -1000};
            for (int times : timesEach) {
                x.points(many);
                x.turn(0, 1);
                x.turn(1, (times + 4200) % many);
                same("power " + times, x.power(0, times, 2), x.number(1));
                same("text", x.text(2), x.text(1));
                same("power into itself", x.power(0, times, 0), x.number(1));
            }
            x.points(many);
            same("power of what is still", x.power(3, -1000, 3), 0);
            same("power of what is still", x.power(3, 1000, 3), 0);
        }
    }

    private static void powerAtItsBounds() {
        says(12, "Throws IllegalArgumentException if times is not -1000 to 1000");
        Swaphouse x = withPoints(7);
        x.ring(0, 0, 1, 2);
        x.exchange(0, 3, 4);
        x.exchange(0, 4, 5);
        x.exchange(0, 5, 6);
        same("order", x.order(0), 12);
        for (int times = -1000; times <= 1000; times += 125) {
            int want = x.power(0, (times + 1200) % 12, 1);
            same("power " + times, x.power(0, times, 2), want);
        }
        refusesEach(x, ARGUMENT, new int[] {LEAST, LEAST + 1, -1002, -1001, 1001, 1002, GREATEST},
                times -> x.power(0, times, 1));
        refusesEach(x, ARGUMENT, new int[] {LEAST, -1001, 1001, GREATEST}, times -> x.power(3, times, 3));
    }

    private static void rename() {
        says(13, "that one's UNDONE one, then the MOVE, then that one, with a CELL named twice");
        Swaphouse x = new Swaphouse();
        x.ring(0, 0, 1, 2);
        x.exchange(1, 2, 3);
        same("rename", x.rename(0, 1, 2), 11);
        same("text", x.text(2), "1 3 2 0");
        same("rename by itself", x.rename(0, 0, 3), 8);
        same("rename by itself into itself", x.rename(0, 0, 0), 8);
        x.copy(1, 4);
        same("rename into the one by which", x.rename(0, 4, 4), 11);
        x.copy(0, 4);
        same("rename into itself", x.rename(4, 1, 4), 11);
        same("rename by what is still", x.rename(0, 5, 4), 8);
        same("rename of what is still", x.rename(5, 0, 4), 0);
        same("texts", texts(x), "1 2 0 3, 0 1 3 2, 1 3 2 0, 1 2 0 3, 0 1 2 3, 0 1 2 3");
    }

    private static void match() {
        says(14, "the one with the least NUMBER, with a CELL named twice");
        Swaphouse x = square();
        same("match of one with itself: STILL is the least", x.match(0, 0, 3), 0);
        same("match of one with itself into itself", x.match(0, 0, 0), 0);
        same("text", x.text(0), "0 1 2 3");
        x.exchange(0, 0, 1);
        x.exchange(2, 2, 3);
        same("match into the first", x.match(0, 2, 0), 16);
        same("text", x.text(0), "2 3 0 1");
        x.points(4);
        x.exchange(0, 0, 1);
        x.exchange(2, 2, 3);
        same("match into the other", x.match(0, 2, 2), 16);
        says(14, "at the fewest and the most POINTS");
        Swaphouse two = withPoints(2);
        same("match of two that are still", two.match(0, 1, 2), 0);
        two.mirror(0);
        two.mirror(1);
        same("match of two that are not", two.match(0, 1, 2), 0);
        Swaphouse seven = withPoints(7);
        seven.turn(0, 1);
        seven.turn(1, -1);
        same("match", seven.match(0, 1, 2), 719);
        same("match of those that are still", seven.match(3, 4, 5), 0);
    }

    private static void matchThatCanNotBe() {
        says(14, "-9 if there is no such MOVE");
        Swaphouse two = withPoints(2);
        two.mirror(0);
        same("match", two.match(0, 1, 0), -9);
        same("match", two.match(1, 0, 0), -9);
        same("text", two.text(0), "1 0");
        Swaphouse seven = withPoints(7);
        seven.exchange(0, 0, 1);
        seven.exchange(1, 0, 1);
        seven.exchange(1, 2, 3);
        seven.exchange(2, 0, 1);
        seven.exchange(2, 2, 3);
        seven.exchange(2, 4, 5);
        seven.ring(3, 0, 1, 2);
        seven.turn(4, 1);
        for (int one = 0; one < 6; one++) {
            for (int other = 0; other < 6; other++) {
                if (one != other) {
                    same("match of unlike ones", seven.match(one, other, 5), -9);
                }
            }
        }
        same("text", seven.text(5), "0 1 2 3 4 5 6");
        same("house", house(seven), "9 30 0");
    }

    private static void nth() {
        says(15, "The MOVE of a GROUP with a RANK: of 0 and of SIZE - 1");
        for (int many = 2; many <= 7; many++) {
            Swaphouse x = allMoves(many);
            int size = factorial(many);
            same("nth of 0", x.nth(3, 5, 0, 2), 0);
            same("nth of 1", x.nth(3, 5, 1, 2), 1);
            same("nth of SIZE - 1", x.nth(3, 5, size - 1, 2), size - 1);
            same("nth of SIZE - 1 of all cells", x.nth(63, 5, size - 1, 3), size - 1);
            same("nth of 0 of no cells", x.nth(0, 5, 0, 3), 0);
            x.mirror(5);
            same("nth of 0 by the row from behind", x.nth(3, 5, 0, 3), size - 1);
            same("nth of SIZE - 1 by the row from behind", x.nth(3, 5, size - 1, 3), 0);
        }
        says(15, "a CELL named twice: the GROUP and the ROW are those from before");
        Swaphouse x = square();
        same("nth into the cell whose row it is", x.nth(3, 0, 4, 0), 23);
        x = square();
        same("nth into a cell of the set", x.nth(3, 5, 7, 1), 23);
        same("nth by the row of a cell of the set, into it", x.nth(1, 0, 0, 0), 18);
        same("texts", texts(x), "3 0 1 2, 3 2 1 0, 0 1 2 3, 0 1 2 3, 0 1 2 3, 0 1 2 3");
    }

    private static void nthThatCanNotBe() {
        says(15, "-9 if rank is SIZE or more");
        for (int many = 2; many <= 7; many++) {
            Swaphouse x = allMoves(many);
            int size = factorial(many);
            String before = texts(x);
            same("nth of SIZE", x.nth(3, 0, size, 0), -9);
            same("nth of SIZE + 1", x.nth(3, 0, size + 1, 0), -9);
            same("nth of the greatest int", x.nth(3, 0, GREATEST, 0), -9);
            same("nth of SIZE of all cells", x.nth(63, 1, size, 1), -9);
            same("nth of SIZE of no cells", x.nth(0, 1, 1, 1), -9);
            same("nth of SIZE of cells that are still", x.nth(60, 1, 1, 1), -9);
            same("texts", texts(x), before);
            same("house", house(x), "3 6 0");
            says(15, "Throws IllegalArgumentException if set is not 0 to 63, or rank is below 0");
            refusesEach(x, ARGUMENT, new int[] {LEAST, -size, -9, -1}, rank -> x.nth(3, 0, rank, 0));
            says(15, "-9 if rank is SIZE or more");
        }
    }
}
