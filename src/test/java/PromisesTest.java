/** Answers worked out by hand from the document, promise by promise. */
public final class PromisesTest extends Checks {
    public static void main(String[] args) {
        movesMade();
        movesAsked();
        groupsAsked();
        wholeAsked();
        actsAreCounted();
        wrongArgumentsComeInSequence();
        finish("PromisesTest");
    }

    // Promises 1 to 15

    private static void movesMade() {
        newObject();
        points();
        lay();
        exchange();
        ring();
        turn();
        mirror();
        copy();
        swap();
        then();
        undo();
        power();
        rename();
        match();
        nth();
    }

    private static void newObject() {
        promise = 1;
        Swaphouse x = new Swaphouse();
        same("count", x.count(), 4);
        for (int cell = 0; cell < 6; cell++) {
            same("text", x.text(cell), "0 1 2 3");
        }
        for (int what = 0; what < 3; what++) {
            same("house", x.house(what), 0);
        }
        Swaphouse other = new Swaphouse();
        other.turn(0, 1);
        other.knock();
        same("text of another object", x.text(0), "0 1 2 3");
        same("knocks at another object", x.house(2), 0);
    }

    private static void points() {
        promise = 2;
        Swaphouse x = square();
        same("points", x.points(7), 4);
        same("count", x.count(), 7);
        for (int cell = 0; cell < 6; cell++) {
            same("text", x.text(cell), "0 1 2 3 4 5 6");
        }
        x.turn(5, 1);
        same("points as many", x.points(7), 7);
        same("text", x.text(5), "0 1 2 3 4 5 6");
        same("points", x.points(2), 7);
        same("text", x.text(0), "0 1");
        same("points", x.points(3), 2);
        same("house", x.house(0), 7);
        refusesEach(x, ARGUMENT, new int[] {1, 8, 0, -2, Integer.MIN_VALUE, Integer.MAX_VALUE}, x::points);
        same("count", x.count(), 3);
    }

    private static void lay() {
        promise = 3;
        Swaphouse x = new Swaphouse();
        same("lay", x.lay(0, 23), 0);
        same("text", x.text(0), "3 2 1 0");
        same("lay", x.lay(0, 1), 23);
        same("text", x.text(0), "0 1 3 2");
        same("lay", x.lay(0, 0), 1);
        same("text", x.text(0), "0 1 2 3");
        x.lay(5, 9);
        same("text", x.text(5), "1 2 3 0");
        same("text of another cell", x.text(4), "0 1 2 3");
        refusesCells(x, cell -> x.lay(cell, 0));
        refusesEach(x, ARGUMENT, new int[] {-1, 24, Integer.MIN_VALUE, Integer.MAX_VALUE}, k -> x.lay(0, k));
        refuses(x, INDEX, () -> x.lay(6, 24));
        x.points(2);
        same("lay", x.lay(0, 1), 0);
        same("text", x.text(0), "1 0");
        refuses(x, ARGUMENT, () -> x.lay(0, 2));
        x.points(7);
        x.lay(0, 5039);
        same("text", x.text(0), "6 5 4 3 2 1 0");
        x.lay(0, 720);
        same("text", x.text(0), "1 0 2 3 4 5 6");
        same("lay", x.lay(0, 719), 720);
        same("text", x.text(0), "0 6 5 4 3 2 1");
        refuses(x, ARGUMENT, () -> x.lay(0, 5040));
    }

    private static void exchange() {
        promise = 4;
        Swaphouse x = new Swaphouse();
        same("exchange", x.exchange(0, 0, 1), -1);
        same("text", x.text(0), "1 0 2 3");
        same("exchange", x.exchange(0, 1, 2), 1);
        same("text: the move first, then the exchange", x.text(0), "2 0 1 3");
        same("exchange of one with itself", x.exchange(0, 3, 3), 1);
        same("text", x.text(0), "2 0 1 3");
        same("house", x.house(0), 3);
        same("exchange, the greater one first", x.exchange(1, 3, 0), -1);
        same("text", x.text(1), "3 1 2 0");
        refusesCells(x, cell -> x.exchange(cell, 0, 1));
        refusesPoints(x, point -> x.exchange(0, point, 1));
        refusesPoints(x, point -> x.exchange(0, 1, point));
        Swaphouse seven = withPoints(7);
        same("exchange", seven.exchange(5, 6, 0), -1);
        same("text", seven.text(5), "6 1 2 3 4 5 0");
        Swaphouse two = withPoints(2);
        same("exchange", two.exchange(0, 0, 1), -1);
        same("exchange", two.exchange(0, 0, 1), 1);
        same("text", two.text(0), "0 1");
        refuses(two, INDEX, () -> two.exchange(0, 0, 2));
    }

    private static void ring() {
        promise = 5;
        Swaphouse x = new Swaphouse();
        same("ring", x.ring(0, 0, 1, 2), 1);
        same("text", x.text(0), "1 2 0 3");
        x.exchange(1, 0, 1);
        same("ring", x.ring(1, 0, 1, 2), -1);
        same("text: the move first, then the ring", x.text(1), "2 1 0 3");
        same("ring", x.ring(2, 3, 0, 1), 1);
        same("text", x.text(2), "1 3 2 0");
        refusesCells(x, cell -> x.ring(cell, 0, 1, 2));
        refusesPoints(x, point -> x.ring(0, point, 1, 2));
        refusesPoints(x, point -> x.ring(0, 1, point, 2));
        refusesPoints(x, point -> x.ring(0, 1, 2, point));
        refuses(x, ARGUMENT, () -> x.ring(0, 1, 1, 2));
        refuses(x, ARGUMENT, () -> x.ring(0, 1, 2, 1));
        refuses(x, ARGUMENT, () -> x.ring(0, 2, 1, 1));
        refuses(x, ARGUMENT, () -> x.ring(0, 3, 3, 3));
        refuses(x, INDEX, () -> x.ring(0, 4, 4, 4));
        refuses(x, INDEX, () -> x.ring(6, 1, 1, 1));
        Swaphouse two = withPoints(2);
        refuses(two, ARGUMENT, () -> two.ring(0, 0, 1, 1));
        refuses(two, INDEX, () -> two.ring(0, 0, 1, 2));
    }

    private static void turn() {
        promise = 6;
        Swaphouse x = new Swaphouse();
        same("turn", x.turn(0, 1), -1);
        same("text", x.text(0), "1 2 3 0");
        same("turn below 0", x.turn(1, -1), -1);
        same("text", x.text(1), "3 0 1 2");
        same("turn by 0", x.turn(1, 0), -1);
        same("text", x.text(1), "3 0 1 2");
        same("turn", x.turn(2, 100), 1);
        same("text", x.text(2), "0 1 2 3");
        same("turn", x.turn(2, -99), -1);
        same("text", x.text(2), "1 2 3 0");
        x.exchange(3, 0, 1);
        same("turn", x.turn(3, 1), 1);
        same("text: the move first, then the turn", x.text(3), "2 1 3 0");
        Swaphouse seven = withPoints(7);
        same("turn", seven.turn(0, -100), 1);
        same("text", seven.text(0), "5 6 0 1 2 3 4");
        refusesCells(x, cell -> x.turn(cell, 1));
        refusesEach(x, ARGUMENT, new int[] {-101, 101, Integer.MIN_VALUE, Integer.MAX_VALUE}, by -> x.turn(0, by));
        refuses(x, INDEX, () -> x.turn(6, 101));
    }

    private static void mirror() {
        promise = 7;
        int[] signs = {-1, -1, 1, 1, -1, -1};
        String[] texts = {"1 0", "2 1 0", "3 2 1 0", "4 3 2 1 0", "5 4 3 2 1 0", "6 5 4 3 2 1 0"};
        for (int many = 2; many <= 7; many++) {
            Swaphouse x = withPoints(many);
            same("mirror", x.mirror(3), signs[many - 2]);
            same("text", x.text(3), texts[many - 2]);
        }
        Swaphouse x = new Swaphouse();
        x.turn(0, 1);
        same("mirror", x.mirror(0), -1);
        same("text: the move first, then the mirror", x.text(0), "2 1 0 3");
        refusesCells(x, x::mirror);
    }

    private static void copy() {
        promise = 8;
        Swaphouse x = square();
        same("copy", x.copy(0, 5), 1);
        same("text", x.text(5), "1 2 3 0");
        same("text", x.text(0), "1 2 3 0");
        same("copy of the same", x.copy(0, 5), 0);
        same("copy into itself", x.copy(1, 1), 0);
        same("house", x.house(0), 5);
        x.turn(0, 1);
        same("text of the copy", x.text(5), "1 2 3 0");
        refusesCells(x, cell -> x.copy(cell, 0));
        refusesCells(x, cell -> x.copy(0, cell));
    }

    private static void swap() {
        promise = 9;
        Swaphouse x = square();
        same("swap", x.swap(0, 1), 1);
        same("text", x.text(0), "3 2 1 0");
        same("text", x.text(1), "1 2 3 0");
        same("swap of the same cell", x.swap(1, 1), 0);
        same("text", x.text(1), "1 2 3 0");
        same("swap of like moves", x.swap(2, 3), 0);
        same("house", x.house(0), 5);
        refusesCells(x, cell -> x.swap(cell, 0));
        refusesCells(x, cell -> x.swap(0, cell));
    }

    private static void then() {
        promise = 10;
        Swaphouse x = new Swaphouse();
        x.exchange(0, 0, 1);
        x.exchange(1, 1, 2);
        same("then", x.then(0, 1, 2), 12);
        same("text", x.text(2), "2 0 1 3");
        same("then", x.then(1, 0, 3), 8);
        same("text", x.text(3), "1 2 0 3");
        same("then of one cell into itself", x.then(2, 2, 2), 8);
        same("then into the first", x.then(0, 1, 0), 12);
        same("text of the other", x.text(1), "0 2 1 3");
        x.exchange(4, 0, 1);
        same("then into the other", x.then(4, 1, 1), 12);
        same("text of the first", x.text(4), "1 0 2 3");
        refusesCells(x, cell -> x.then(cell, 0, 0));
        refusesCells(x, cell -> x.then(0, cell, 0));
        refusesCells(x, cell -> x.then(0, 0, cell));
    }

    private static void undo() {
        promise = 11;
        Swaphouse x = new Swaphouse();
        x.ring(0, 0, 1, 2);
        same("undo", x.undo(0, 1), 12);
        same("text", x.text(1), "2 0 1 3");
        same("text", x.text(0), "1 2 0 3");
        same("undo into itself", x.undo(0, 0), 12);
        same("then", x.then(1, 0, 2), 8);
        same("undo of what is still", x.undo(5, 2), 0);
        refusesCells(x, cell -> x.undo(cell, 0));
        refusesCells(x, cell -> x.undo(0, cell));
    }

    private static void power() {
        promise = 12;
        Swaphouse x = new Swaphouse();
        x.turn(0, 1);
        same("power", x.power(0, 1, 1), 9);
        same("power", x.power(0, 2, 1), 16);
        same("power", x.power(0, 3, 1), 18);
        same("power below 0", x.power(0, -1, 1), 18);
        same("power below 0", x.power(0, -3, 1), 9);
        same("power of 0", x.power(0, 0, 1), 0);
        same("power", x.power(0, 1000, 1), 0);
        same("power", x.power(0, -999, 1), 9);
        same("power into itself", x.power(0, 3, 0), 18);
        same("power", x.power(0, 999, 2), 9);
        refusesCells(x, cell -> x.power(cell, 1, 0));
        refusesCells(x, cell -> x.power(0, 1, cell));
        refusesEach(x, ARGUMENT, new int[] {-1001, 1001, Integer.MIN_VALUE, Integer.MAX_VALUE},
                times -> x.power(0, times, 1));
        refuses(x, INDEX, () -> x.power(6, 1001, 0));
        refuses(x, INDEX, () -> x.power(0, 1001, 6));
        Swaphouse seven = withPoints(7);
        seven.turn(0, 1);
        same("power", seven.power(0, 1000, 1), 4320);
        same("power", seven.power(0, -1000, 1), 873);
    }

    private static void rename() {
        promise = 13;
        Swaphouse x = new Swaphouse();
        x.exchange(0, 0, 1);
        x.turn(1, 1);
        same("rename", x.rename(0, 1, 2), 2);
        same("text", x.text(2), "0 2 1 3");
        same("rename by itself", x.rename(1, 1, 2), 9);
        same("rename into the one by which", x.rename(0, 1, 1), 2);
        x.turn(3, 1);
        same("rename into itself", x.rename(0, 3, 0), 2);
        same("rename by what is still", x.rename(3, 5, 4), 9);
        refusesCells(x, cell -> x.rename(cell, 0, 0));
        refusesCells(x, cell -> x.rename(0, cell, 0));
        refusesCells(x, cell -> x.rename(0, 0, cell));
    }

    private static void match() {
        promise = 14;
        Swaphouse x = new Swaphouse();
        x.exchange(0, 0, 1);
        x.exchange(1, 1, 2);
        x.ring(2, 0, 1, 2);
        same("match", x.match(0, 1, 3), 8);
        same("rename", x.rename(0, 3, 4), 2);
        same("match of what is still", x.match(5, 5, 5), 0);
        same("match of one with itself", x.match(2, 2, 4), 0);
        x.undo(2, 4);
        same("match of a ring with its undone one", x.match(2, 4, 3), 2);
        same("house", x.house(0), 9);
        same("match of unlike ones", x.match(0, 2, 3), -9);
        same("text", x.text(3), "0 2 1 3");
        same("house", x.house(0), 9);
        same("house", x.house(1), 1);
        same("match into the first", x.match(0, 1, 0), 8);
        refusesCells(x, cell -> x.match(cell, 0, 0));
        refusesCells(x, cell -> x.match(0, cell, 0));
        refusesCells(x, cell -> x.match(0, 2, cell));
        Swaphouse seven = withPoints(7);
        seven.lay(0, 719);
        seven.mirror(1);
        same("match", seven.match(0, 1, 2), 2160);
        same("text", seven.text(2), "3 0 1 2 4 5 6");
    }

    private static void nth() {
        promise = 15;
        Swaphouse x = square();
        same("nth", x.nth(1, 5, 0, 2), 0);
        same("nth", x.nth(1, 5, 1, 2), 9);
        same("nth", x.nth(1, 5, 2, 2), 16);
        same("nth", x.nth(1, 5, 3, 2), 18);
        same("text", x.text(2), "3 0 1 2");
        same("nth by another row", x.nth(1, 1, 0, 3), 9);
        same("nth by another row", x.nth(1, 1, 1, 3), 16);
        same("nth by another row", x.nth(1, 1, 2, 3), 18);
        same("nth by another row", x.nth(1, 1, 3, 3), 0);
        same("nth", x.nth(3, 5, 7, 4), 23);
        int done = x.house(0);
        same("nth", x.nth(1, 5, 4, 4), -9);
        same("nth", x.nth(0, 5, 1, 4), -9);
        same("nth", x.nth(1, 5, Integer.MAX_VALUE, 4), -9);
        same("house", x.house(0), done);
        same("house", x.house(1), 3);
        same("text", x.text(4), "3 2 1 0");
        same("nth of no cells", x.nth(0, 5, 0, 4), 0);
        same("nth into the set's cell, by its row", x.nth(1, 0, 3, 0), 16);
        refusesCells(x, cell -> x.nth(1, cell, 0, 0));
        refusesCells(x, cell -> x.nth(1, 0, 0, cell));
        refusesSets(x, set -> x.nth(set, 0, 0, 0));
        refuses(x, ARGUMENT, () -> x.nth(1, 0, -1, 0));
        refuses(x, ARGUMENT, () -> x.nth(1, 0, Integer.MIN_VALUE, 0));
        refuses(x, ARGUMENT, () -> x.nth(64, 0, 10000, 0));
        refuses(x, INDEX, () -> x.nth(64, 6, -1, 0));
        refuses(x, INDEX, () -> x.nth(1, 0, 10000, 6));
        Swaphouse seven = withPoints(7);
        seven.turn(0, 1);
        seven.exchange(1, 0, 1);
        same("nth", seven.nth(3, 5, 5039, 2), 5039);
        same("nth", seven.nth(3, 5, 4711, 2), 4711);
        seven.points(7);
        seven.turn(0, 1);
        seven.exchange(1, 0, 1);
        seven.mirror(2);
        same("nth by the row 6 5 4 3 2 1 0", seven.nth(3, 2, 0, 3), 5039);
        same("nth by the row 6 5 4 3 2 1 0", seven.nth(3, 2, 5039, 3), 0);
        same("nth by the row 6 5 4 3 2 1 0", seven.nth(3, 2, 720, 3), 5038);
    }

    // Promises 16 to 26

    private static void movesAsked() {
        countAndNumber();
        goesAndTexts();
        ringTexts();
        orderSignStays();
        likeAndCommuting();
    }

    private static void countAndNumber() {
        promise = 16;
        for (int many = 2; many <= 7; many++) {
            same("count", withPoints(many).count(), many);
        }
        promise = 17;
        Swaphouse x = square();
        same("number", x.number(0), 9);
        same("number", x.number(1), 23);
        same("number", x.number(5), 0);
        changesNothing(x, () -> x.number(0));
        refusesCells(x, x::number);
        for (int many = 2, last = 1; many <= 7; many++, last = (last + 1) * many - 1) {
            Swaphouse y = withPoints(many);
            y.mirror(2);
            same("number of the last move", y.number(2), last);
            for (int k = 0; k <= last; k += 1 + last / 17) {
                y.lay(3, k);
                same("number of what was laid", y.number(3), k);
            }
        }
    }

    private static void goesAndTexts() {
        promise = 18;
        Swaphouse x = new Swaphouse();
        x.ring(0, 0, 2, 3);
        int[] goals = {2, 1, 3, 0};
        for (int p = 0; p < 4; p++) {
            same("goes", x.goes(0, p), goals[p]);
        }
        refusesCells(x, cell -> x.goes(cell, 0));
        refusesPoints(x, point -> x.goes(0, point));
        promise = 19;
        same("text", x.text(0), "2 1 3 0");
        changesNothing(x, () -> x.text(0));
        refusesCells(x, x::text);
    }

    private static void ringTexts() {
        Swaphouse x = withPoints(7);
        x.ring(0, 5, 1, 3);
        x.exchange(0, 0, 6);
        promise = 20;
        same("rings", x.rings(0), "1 1 2 3");
        same("rings", x.rings(5), "1 1 1 1 1 1 1");
        x.turn(1, 3);
        same("rings", x.rings(1), "7");
        refusesCells(x, x::rings);
        promise = 21;
        same("ringText", x.ringText(0, 5), "5 1 3");
        same("ringText", x.ringText(0, 1), "1 3 5");
        same("ringText", x.ringText(0, 6), "6 0");
        same("ringText", x.ringText(0, 2), "2");
        same("ringText", x.ringText(1, 6), "6 2 5 1 4 0 3");
        changesNothing(x, () -> x.ringText(0, 5));
        refusesCells(x, cell -> x.ringText(cell, 0));
        refusesPoints(x, point -> x.ringText(0, point));
        same("rings of two points", withPoints(2).rings(0), "1 1");
    }

    private static void orderSignStays() {
        Swaphouse x = withPoints(7);
        x.ring(0, 0, 1, 2);
        x.ring(1, 3, 4, 5);
        x.exchange(1, 3, 6);
        x.then(0, 1, 2);
        x.turn(3, 2);
        x.exchange(4, 2, 5);
        promise = 22;
        int[] orders = {3, 4, 12, 7, 2, 1};
        for (int cell = 0; cell < 6; cell++) {
            same("order", x.order(cell), orders[cell]);
        }
        refusesCells(x, x::order);
        promise = 23;
        int[] signs = {1, -1, -1, 1, -1, 1};
        for (int cell = 0; cell < 6; cell++) {
            same("sign", x.sign(cell), signs[cell]);
        }
        refusesCells(x, x::sign);
        promise = 24;
        int[] stays = {120, 7, 0, 0, 91, 127};
        for (int cell = 0; cell < 6; cell++) {
            same("stays", x.stays(cell), stays[cell]);
        }
        refusesCells(x, x::stays);
        same("stays of two points", withPoints(2).stays(0), 3);
    }

    private static void likeAndCommuting() {
        promise = 25;
        Swaphouse x = withPoints(6);
        x.exchange(0, 0, 1);
        x.exchange(1, 4, 5);
        x.exchange(2, 0, 1);
        x.exchange(2, 2, 3);
        x.exchange(2, 4, 5);
        x.ring(3, 0, 1, 2);
        same("areAlike", x.areAlike(0, 1), true);
        same("areAlike", x.areAlike(0, 0), true);
        same("areAlike: the same lengths, not as often", x.areAlike(0, 2), false);
        same("areAlike", x.areAlike(0, 3), false);
        x.ring(4, 0, 1, 2);
        x.ring(4, 3, 4, 5);
        same("areAlike: the same lengths, not as often", x.areAlike(3, 4), false);
        refusesCells(x, cell -> x.areAlike(cell, 0));
        refusesCells(x, cell -> x.areAlike(0, cell));
        promise = 26;
        same("commute", x.commute(0, 1), true);
        same("commute", x.commute(0, 3), false);
        same("commute", x.commute(3, 0), false);
        same("commute", x.commute(3, 3), true);
        same("commute", x.commute(3, 5), true);
        same("commute", x.commute(3, 4), true);
        changesNothing(x, () -> x.commute(0, 3));
        refusesCells(x, cell -> x.commute(cell, 0));
        refusesCells(x, cell -> x.commute(0, cell));
    }

    // Promises 27 to 43

    private static void groupsAsked() {
        size();
        reach();
        isIn();
        rank();
        list();
        comesAndPieces();
        withOrderAndEven();
        colourings();
        parts();
        share();
        blocks();
        isTwofold();
        enough();
    }

    private static void size() {
        promise = 27;
        Swaphouse x = square();
        for (int row = 0; row < 6; row++) {
            same("size", x.size(3, row), 8);
        }
        same("size", x.size(1, 0), 4);
        same("size", x.size(2, 0), 2);
        same("size of no cells", x.size(0, 0), 1);
        same("size of what is still", x.size(60, 0), 1);
        same("size of all cells", x.size(63, 0), 8);
        changesNothing(x, () -> x.size(63, 0));
        refusesCells(x, cell -> x.size(3, cell));
        refusesSets(x, set -> x.size(set, 0));
        refuses(x, INDEX, () -> x.size(64, 6));
        int factorial = 1;
        for (int many = 2; many <= 7; many++) {
            factorial *= many;
            Swaphouse y = withPoints(many);
            y.turn(4, 1);
            y.exchange(5, 0, 1);
            same("size of all moves", y.size(48, 4), factorial);
        }
        Swaphouse three = withPoints(3);
        three.exchange(0, 1, 2);
        three.exchange(1, 0, 1);
        for (int row = 0; row < 3; row++) {
            same("size by each row", three.size(3, row), 6);
        }
        Swaphouse fano = withPoints(7);
        fano.turn(0, 1);
        fano.lay(1, 0);
        fano.exchange(1, 1, 2);
        fano.exchange(1, 3, 6);
        same("size of the moves of seven lines", fano.size(3, 0), 168);
    }

    private static void reach() {
        promise = 28;
        Swaphouse x = square();
        int[] straight = {15, 10, 4, 8};
        int[] mirrored = {15, 5, 2, 1};
        for (int level = 0; level < 4; level++) {
            same("reach", x.reach(3, 5, level), straight[level]);
            same("reach by the row 3 2 1 0", x.reach(3, 1, level), mirrored[level]);
            same("reach of no cells", x.reach(0, 1, level), 1 << 3 - level);
        }
        refusesCells(x, cell -> x.reach(3, cell, 0));
        refusesPoints(x, level -> x.reach(3, 0, level));
        refusesSets(x, set -> x.reach(set, 0, 0));
        refuses(x, INDEX, () -> x.reach(64, 0, 4));
        refuses(x, INDEX, () -> x.reach(64, 6, 0));
        Swaphouse seven = withPoints(7);
        seven.turn(0, 1);
        seven.exchange(1, 0, 1);
        for (int level = 0; level < 7; level++) {
            same("reach of all moves", seven.reach(3, 5, level), 127 >> level << level);
        }
    }

    private static void isIn() {
        promise = 29;
        Swaphouse x = square();
        x.exchange(2, 0, 1);
        x.exchange(3, 0, 2);
        for (int how = 0; how < 2; how++) {
            int by = how;
            same("isIn", x.isIn(3, 0, by), true);
            same("isIn", x.isIn(3, 3, by), true);
            same("isIn", x.isIn(3, 2, by), false);
            same("isIn", x.isIn(1, 1, by), false);
            same("isIn of no cells", x.isIn(0, 5, by), true);
            same("isIn of no cells", x.isIn(0, 0, by), false);
            changesNothing(x, () -> x.isIn(3, 2, by));
            refusesCells(x, cell -> x.isIn(3, cell, by));
            refusesSets(x, set -> x.isIn(set, 0, by));
        }
        refusesEach(x, ARGUMENT, new int[] {-1, 2, Integer.MAX_VALUE}, how -> x.isIn(3, 0, how));
        refuses(x, INDEX, () -> x.isIn(64, 6, 2));
    }

    private static void rank() {
        promise = 30;
        Swaphouse x = square();
        x.exchange(2, 1, 3);
        x.exchange(3, 0, 1);
        same("rank", x.rank(3, 5, 5), 0);
        same("rank", x.rank(3, 5, 2), 1);
        same("rank", x.rank(3, 5, 0), 3);
        same("rank", x.rank(3, 5, 1), 7);
        same("rank by the row 3 2 1 0", x.rank(3, 1, 1), 0);
        same("rank by the row 3 2 1 0", x.rank(3, 1, 0), 1);
        same("rank by the row 3 2 1 0", x.rank(3, 1, 5), 7);
        same("rank of one that is not in it", x.rank(3, 5, 3), -1);
        same("rank of one that is not in it", x.rank(0, 5, 0), -1);
        same("rank", x.rank(0, 5, 5), 0);
        same("house", x.house(1), 0);
        refusesCells(x, cell -> x.rank(3, cell, 0));
        refusesCells(x, cell -> x.rank(3, 0, cell));
        refusesSets(x, set -> x.rank(set, 0, 0));
        refuses(x, INDEX, () -> x.rank(64, 0, 6));
    }

    private static void list() {
        promise = 31;
        Swaphouse x = square();
        same("list", x.list(3, 0), "0 5 7 9 14 16 18 23");
        same("list", x.list(3, 3), "9 14 16 18 23");
        same("list", x.list(3, 7), "23");
        same("list", x.list(3, 8), "");
        same("list", x.list(3, Integer.MAX_VALUE), "");
        same("list of no cells", x.list(0, 0), "0");
        same("list of no cells", x.list(0, 1), "");
        refusesSets(x, set -> x.list(set, 0));
        refusesEach(x, ARGUMENT, new int[] {-1, Integer.MIN_VALUE}, from -> x.list(3, from));
        x.exchange(2, 0, 1);
        same("list of all", x.list(7, 0), "0 1 2 3 4 5 6 7 8 9 10 11 12 13 14 15 16 17 18 19");
        same("list of all", x.list(7, 3), "3 4 5 6 7 8 9 10 11 12 13 14 15 16 17 18 19 20 21 22");
        same("list of all", x.list(7, 4), "4 5 6 7 8 9 10 11 12 13 14 15 16 17 18 19 20 21 22 23");
        same("list of all", x.list(7, 5), "5 6 7 8 9 10 11 12 13 14 15 16 17 18 19 20 21 22 23");
        changesNothing(x, () -> x.list(7, 0));
    }

    private static void comesAndPieces() {
        Swaphouse x = withPoints(7);
        x.ring(0, 0, 2, 4);
        x.exchange(1, 4, 6);
        x.exchange(2, 1, 5);
        promise = 32;
        same("comes", x.comes(1, 2), 21);
        same("comes", x.comes(3, 6), 85);
        same("comes", x.comes(3, 1), 2);
        same("comes", x.comes(7, 5), 34);
        same("comes of no cells", x.comes(0, 6), 64);
        changesNothing(x, () -> x.comes(7, 5));
        refusesPoints(x, point -> x.comes(1, point));
        refusesSets(x, set -> x.comes(set, 0));
        refuses(x, INDEX, () -> x.comes(64, 7));
        promise = 33;
        same("pieces", x.pieces(0), 7);
        same("pieces", x.pieces(1), 5);
        same("pieces", x.pieces(3), 4);
        same("pieces", x.pieces(7), 3);
        x.turn(3, 1);
        same("pieces", x.pieces(8), 1);
        refusesSets(x, x::pieces);
    }

    private static void withOrderAndEven() {
        Swaphouse x = square();
        promise = 34;
        int[] many = {0, 1, 5, 0, 2, 0, 0, 0, 0, 0, 0, 0, 0};
        for (int order = 1; order <= 12; order++) {
            same("withOrder", x.withOrder(3, order), many[order]);
        }
        same("withOrder of no cells", x.withOrder(0, 1), 1);
        refusesEach(x, ARGUMENT, new int[] {0, 13, -1, Integer.MAX_VALUE}, order -> x.withOrder(3, order));
        refusesSets(x, set -> x.withOrder(set, 1));
        Swaphouse seven = withPoints(7);
        seven.turn(0, 1);
        seven.exchange(1, 0, 1);
        same("withOrder", seven.withOrder(3, 12), 420);
        same("withOrder", seven.withOrder(3, 7), 720);
        promise = 35;
        same("even", x.even(3), 4);
        same("even", x.even(1), 2);
        same("even", x.even(2), 2);
        same("even of no cells", x.even(0), 1);
        same("even", seven.even(3), 2520);
        same("even", seven.even(1), 7);
        changesNothing(x, () -> x.even(3));
        refusesSets(x, x::even);
    }

    private static void colourings() {
        promise = 36;
        Swaphouse x = square();
        Swaphouse y = hexagon();
        for (int how = 0; how < 2; how++) {
            int by = how;
            same("colourings", x.colourings(3, 1, by), 1);
            same("colourings", x.colourings(3, 2, by), 6);
            same("colourings", x.colourings(3, 3, by), 21);
            same("colourings", x.colourings(1, 3, by), 24);
            same("colourings of no cells", x.colourings(0, 2, by), 16);
            same("colourings of no cells", x.colourings(0, 3, by), 81);
            same("colourings", y.colourings(3, 2, by), 13);
            same("colourings", y.colourings(1, 2, by), 14);
            same("colourings", y.colourings(3, 3, by), 92);
            same("colourings of seven points", withPoints(7).colourings(63, 3, by), 2187);
            same("colourings of two points", withPoints(2).colourings(63, 3, by), 9);
            changesNothing(x, () -> x.colourings(3, 3, by));
            refusesSets(x, set -> x.colourings(set, 1, by));
            refusesEach(x, ARGUMENT, new int[] {0, 4, -1, Integer.MAX_VALUE}, many -> x.colourings(3, many, by));
        }
        refusesEach(x, ARGUMENT, new int[] {-1, 2, Integer.MIN_VALUE}, how -> x.colourings(3, 2, how));
    }

    private static void parts() {
        Swaphouse x = square();
        x.exchange(2, 0, 1);
        promise = 37;
        same("isPart", x.isPart(1, 3), true);
        same("isPart", x.isPart(3, 1), false);
        same("isPart", x.isPart(3, 3), true);
        same("isPart", x.isPart(4, 3), false);
        same("isPart", x.isPart(3, 5), true);
        same("isPart of no cells", x.isPart(0, 0), true);
        same("isPart of no cells", x.isPart(0, 63), true);
        same("isPart of what is still", x.isPart(56, 0), true);
        same("isPart", x.isPart(1, 0), false);
        refusesSets(x, set -> x.isPart(set, 0));
        refusesSets(x, set -> x.isPart(0, set));
        promise = 38;
        same("shares", x.shares(1, 3), 2);
        same("shares", x.shares(2, 3), 4);
        same("shares", x.shares(0, 3), 8);
        same("shares", x.shares(3, 63), 3);
        same("shares", x.shares(63, 63), 1);
        same("shares", x.shares(0, 0), 1);
        same("shares of no part", x.shares(3, 1), -9);
        same("shares of no part", x.shares(4, 3), -9);
        same("house", x.house(1), 0);
        changesNothing(x, () -> x.shares(4, 3));
        refusesSets(x, set -> x.shares(set, 0));
        refusesSets(x, set -> x.shares(0, set));
        refusesSets(x, set -> x.shares(3, set));
    }

    private static void share() {
        promise = 39;
        Swaphouse x = square();
        x.ring(2, 0, 1, 2);
        x.exchange(3, 0, 1);
        same("share: the move of the group first", x.share(3, 2), 2);
        same("share", x.share(3, 3), 1);
        same("share of one in it", x.share(3, 0), 0);
        same("share of no cells", x.share(0, 2), 8);
        same("share", x.share(1, 2), 4);
        changesNothing(x, () -> x.share(3, 2));
        refusesCells(x, cell -> x.share(3, cell));
        refusesSets(x, set -> x.share(set, 0));
        refuses(x, INDEX, () -> x.share(64, 6));
    }

    private static void blocks() {
        Swaphouse x = hexagon();
        promise = 40;
        same("together", x.together(3, 0, 2), 21);
        same("together", x.together(3, 3, 1), 42);
        same("together", x.together(3, 0, 3), 9);
        same("together", x.together(3, 0, 1), 63);
        same("together of one with itself", x.together(3, 4, 4), 16);
        same("together of no cells", x.together(0, 0, 5), 33);
        refusesPoints(x, point -> x.together(3, point, 0));
        refusesPoints(x, point -> x.together(3, 0, point));
        refusesSets(x, set -> x.together(set, 0, 1));
        refuses(x, INDEX, () -> x.together(64, 0, 6));
        promise = 41;
        same("blocks", x.blocks(3, 0, 2), 2);
        same("blocks", x.blocks(3, 0, 3), 3);
        same("blocks", x.blocks(3, 0, 1), 1);
        same("blocks of one with itself", x.blocks(3, 4, 4), 6);
        same("blocks of no cells", x.blocks(0, 0, 5), 5);
        refusesPoints(x, point -> x.blocks(3, point, 0));
        refusesPoints(x, point -> x.blocks(3, 0, point));
        refusesSets(x, set -> x.blocks(set, 0, 1));
        refuses(x, INDEX, () -> x.blocks(64, 6, 0));
        Swaphouse apart = withPoints(7);
        apart.ring(0, 0, 1, 2);
        apart.ring(0, 3, 4, 5);
        promise = 40;
        same("together over two pieces", apart.together(1, 0, 3), 9);
        same("together with one that stays", apart.together(1, 0, 6), 71);
        Swaphouse back = withPoints(7);
        back.turn(0, -1);
        same("together of what spreads step by step", back.together(1, 0, 1), 127);
        same("together of what spreads step by step", back.together(1, 3, 0), 127);
        promise = 41;
        same("blocks over two pieces", apart.blocks(1, 0, 3), 4);
        same("blocks with one that stays", apart.blocks(1, 0, 6), 4);
        changesNothing(apart, () -> apart.blocks(1, 0, 6));
    }

    private static void isTwofold() {
        promise = 42;
        Swaphouse x = square();
        same("isTwofold", x.isTwofold(3), false);
        same("isTwofold", x.isTwofold(0), false);
        x.ring(2, 0, 1, 2);
        x.ring(3, 1, 2, 3);
        same("isTwofold", x.isTwofold(12), true);
        same("isTwofold of a piece alone", x.isTwofold(4), false);
        same("isTwofold", x.isTwofold(63), true);
        refusesSets(x, x::isTwofold);
        Swaphouse two = withPoints(2);
        same("isTwofold of two points that stay", two.isTwofold(63), false);
        two.mirror(0);
        same("isTwofold of two points", two.isTwofold(1), true);
        Swaphouse three = withPoints(3);
        three.turn(0, 1);
        same("isTwofold", three.isTwofold(1), false);
        three.mirror(1);
        same("isTwofold", three.isTwofold(3), true);
        changesNothing(three, () -> three.isTwofold(3));
    }

    private static void enough() {
        promise = 43;
        Swaphouse x = hexagon();
        x.power(0, 3, 2);
        x.power(0, 2, 3);
        same("enough", x.enough(15), 3);
        same("enough", x.enough(14), 14);
        same("enough", x.enough(12), 12);
        same("enough", x.enough(63), 3);
        same("enough of what is still", x.enough(48), 0);
        same("enough of no cells", x.enough(0), 0);
        x.copy(1, 5);
        same("enough: the lesser cell is taken", x.enough(34), 2);
        same("enough", x.enough(32), 32);
        x.swap(0, 5);
        same("enough: what comes late does not take back", x.enough(36), 36);
        same("enough", x.enough(44), 12);
        changesNothing(x, () -> x.enough(63));
        refusesSets(x, x::enough);
    }

    // Promises 44 to 47

    private static void wholeAsked() {
        promise = 44;
        Swaphouse x = square();
        same("house", x.house(0), 2);
        x.nth(0, 0, 1, 0);
        same("house", x.house(1), 1);
        x.knock();
        same("house", x.house(2), 1);
        same("house", x.house(0), 2);
        refusesEach(x, ARGUMENT, new int[] {-1, 3, Integer.MIN_VALUE, Integer.MAX_VALUE}, x::house);
        promise = 45;
        same("knock", x.knock(), 2);
        same("knock", x.knock(), 3);
        same("house", x.house(2), 3);
        same("house", x.house(0), 2);
        same("text", x.text(0), "1 2 3 0");
        promise = 46;
        same("isSound", x.isSound(), true);
        for (int many = 2; many <= 7; many++) {
            Swaphouse y = withPoints(many);
            same("isSound of what is still", y.isSound(), true);
            y.turn(1, 1);
            same("isSound", y.isSound(), true);
            y.exchange(0, 0, 1);
            same("isSound of all moves", y.isSound(), true);
            changesNothing(y, y::isSound);
        }
        promise = 47;
        digestOfNew();
        digestOfSquare();
    }

    private static void digestOfNew() {
        long[] values = {4, 0, 1, 1, 15, 7, 0, 1, 1, 15, 7, 0, 1, 1, 15, 7, 0, 1, 1, 15, 7, 0, 1, 1, 15, 7, 0, 1, 1, 15, 7,
            1, 4, 1, 0, 1, 2, 4, 8, 0, 0, 0, 1};
        same("digest of a new one", new Swaphouse().digest(), folded(values));
    }

    private static void digestOfSquare() {
        Swaphouse x = square();
        x.knock();
        x.knock();
        x.knock();
        x.match(0, 1, 5);
        long[] values = {4, 9, 4, -1, 0, 1, 23, 2, 1, 0, 3, 0, 1, 1, 15, 7, 0, 1, 1, 15, 7, 0, 1, 1, 15, 7, 0, 1, 1, 15, 7,
            8, 1, 4, 3, 15, 5, 8, 1, 2, 1, 3, 1};
        same("digest of a square", x.digest(), folded(values));
        changesNothing(x, x::digest);
    }

    private static long folded(long[] values) {
        long d = 8030;
        for (long value : values) {
            d = d * 31 + value;
        }
        return d;
    }

    // The description's words on ACTS

    private static void actsAreCounted() {
        promise = 0;
        Swaphouse x = new Swaphouse();
        Call[] acts = {() -> x.points(5), () -> x.lay(0, 0), () -> x.exchange(0, 1, 1), () -> x.ring(1, 0, 1, 2),
            () -> x.turn(0, 0), () -> x.mirror(2), () -> x.copy(0, 0), () -> x.swap(0, 0), () -> x.then(5, 5, 5),
            () -> x.undo(5, 5), () -> x.power(0, 0, 5), () -> x.rename(5, 5, 5), () -> x.match(5, 5, 5),
            () -> x.nth(0, 0, 0, 5)};
        for (int i = 0; i < acts.length; i++) {
            acts[i].make();
            same("acts done", x.house(0), i + 1);
            same("acts that told -9", x.house(1), 0);
        }
        x.match(1, 2, 0);
        x.nth(0, 0, 1, 0);
        same("acts done", x.house(0), acts.length);
        same("acts that told -9", x.house(1), 2);
    }

    private static void wrongArgumentsComeInSequence() {
        promise = 0;
        Swaphouse x = square();
        refuses(x, INDEX, () -> x.lay(-1, -1));
        refuses(x, INDEX, () -> x.ring(0, 0, 0, 9));
        refuses(x, INDEX, () -> x.turn(-1, 1000));
        refuses(x, INDEX, () -> x.power(0, 9999, -1));
        refuses(x, INDEX, () -> x.nth(-1, 0, -1, -1));
        refuses(x, INDEX, () -> x.size(-1, -1));
        refuses(x, INDEX, () -> x.reach(-1, 0, -1));
        refuses(x, INDEX, () -> x.isIn(-1, -1, -1));
        refuses(x, INDEX, () -> x.rank(-1, 0, -1));
        refuses(x, INDEX, () -> x.comes(-1, -1));
        refuses(x, INDEX, () -> x.share(-1, -1));
        refuses(x, INDEX, () -> x.together(-1, 0, -1));
        refuses(x, INDEX, () -> x.blocks(-1, -1, 0));
    }
}
