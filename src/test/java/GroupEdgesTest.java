import java.util.TreeSet;

/** The document's sentences on GROUPS that name a boundary case: "2. Groups" and the promises 27 to 43. */
public final class GroupEdgesTest extends Checks {
    public static void main(String[] args) {
        eachSet();
        eachSetAndEachWhole();
        noCells();
        cellsThatAreStill();
        size();
        reach();
        reachAtTheLastLevel();
        isIn();
        rank();
        rankOfOneThatIsNotInIt();
        list();
        listBehindTheLastOne();
        listOfMoreThanTwenty();
        comes();
        pieces();
        withOrder();
        even();
        colourings();
        isPart();
        shares();
        share();
        blocksOfTheSame();
        blocksAtTheLastPoints();
        blocksThatSpreadFromCellToCell();
        blocksThatSpreadAlongRings();
        isTwofold();
        enough();
        enoughLooksByRisingNumbers();
        finish("GroupEdgesTest");
    }

    // Help

    private static String lastWord(String words) {
        return words.substring(words.lastIndexOf(' ') + 1);
    }

    /** NUMBERS of the moves p to p * by + with, each by being 1 to N - 1 times itself, with N a prime. */
    private static TreeSet<Integer> affine(int n, int by) {
        TreeSet<Integer> numbers = new TreeSet<>();
        for (int factor = by; !numbers.contains(numberOf(n, factor, 0)); factor = factor * by % n) {
            for (int with = 0; with < n; with++) {
                numbers.add(numberOf(n, factor, with));
            }
        }
        return numbers;
    }

    private static int numberOf(int n, int by, int with) {
        int number = 0;
        for (int p = 0; p < n; p++) {
            int lesser = 0;
            for (int q = p + 1; q < n; q++) {
                lesser += (q * by + with) % n < (p * by + with) % n ? 1 : 0;
            }
            number = number * (n - p) + lesser;
        }
        return number;
    }

    private static Swaphouse affineHouse(int n, int by) {
        Swaphouse x = withPoints(n);
        x.turn(0, 1);
        x.lay(1, numberOf(n, by, 0));
        return x;
    }

    private static String joined(TreeSet<Integer> numbers, int from) {
        StringBuilder words = new StringBuilder();
        numbers.stream().skip(from).limit(20).forEach(k -> words.append(words.length() == 0 ? "" : " ").append(k));
        return words.toString();
    }

    // 2. Groups, and what a SET is

    /** In stairs(), CELLS of a SET that follow each other make up all moves of the POINTS that they exchange. */
    private static void eachSet() {
        for (int set = 0; set < 64; set++) {
            says(27, "A SET is told as the sum of 2^k for each CELL k in it (0 to 63): " + set);
            Swaphouse x = stairs();
            int size = 1;
            for (int point = 0, low = 0; point < 7; point++) {
                low = point > 0 && (set >> point - 1 & 1) == 1 ? low : point;
                size *= point - low + 1;
            }
            same("size", x.size(set, set % 6), size);
            same("even", x.even(set), set == 0 ? 1 : size / 2);
            same("pieces", x.pieces(set), 7 - Integer.bitCount(set));
            same("enough", x.enough(set), set);
            same("withOrder", x.withOrder(set, 1), 1);
            same("shares", x.shares(set, 63), 5040 / size);
            same("shares", x.shares(0, set), size);
            same("nth", x.nth(set, 0, size, 0), -9);
            for (int point = 0; point < 7; point++) {
                same("comes", x.comes(set, point), run(set, point));
            }
            for (int cell = 0; cell < 6; cell++) {
                boolean in = (set >> cell & 1) == 1;
                same("isIn", x.isIn(set, cell, 0), in);
                same("isIn", x.isIn(set, cell, 1), in);
                same("rank", x.rank(set, cell, cell) >= 0, in);
                same("reach", x.reach(set, cell, 0), run(set, x.goes(cell, 0)));
            }
        }
    }

    private static int run(int set, int point) {
        int low = point;
        while (low > 0 && (set >> low - 1 & 1) == 1) {
            low--;
        }
        int high = point;
        while ((set >> high & 1) == 1) {
            high++;
        }
        return (2 << high) - (1 << low);
    }

    private static void eachSetAndEachWhole() {
        says(37, "A GROUP is a PART of another one, if all its MOVES are in that");
        for (int set = 0; set < 64; set++) {
            Swaphouse x = stairs();
            for (int whole = 0; whole < 64; whole++) {
                boolean part = (set & ~whole) == 0;
                same("isPart of " + set + " in " + whole, x.isPart(set, whole), part);
                same("shares of " + set + " in " + whole, x.shares(set, whole) > 0, part);
            }
            same("house", house(x), "7 0 0");
        }
    }

    private static void noCells() {
        says(27, "The GROUP of the SET 0: STILL alone");
        for (int many = 2; many <= 7; many++) {
            Swaphouse x = allMoves(many);
            int all = (1 << many) - 1;
            int last = many - 1;
            same("size", x.size(0, 1), 1);
            same("isIn of what is still", x.isIn(0, 5, 0), true);
            same("isIn of what is still", x.isIn(0, 5, 1), true);
            same("isIn", x.isIn(0, 0, 0), false);
            same("isIn", x.isIn(0, 0, 1), false);
            same("rank of what is still", x.rank(0, 0, 5), 0);
            same("list", x.list(0, 0), "0");
            same("comes", x.comes(0, last), 1 << last);
            same("pieces", x.pieces(0), many);
            same("withOrder of 1", x.withOrder(0, 1), 1);
            same("withOrder of 2", x.withOrder(0, 2), 0);
            same("even", x.even(0), 1);
            same("isPart", x.isPart(0, 0), true);
            same("shares", x.shares(0, 0), 1);
            same("shares", x.shares(3, 0), -9);
            same("share", x.share(0, 0), x.number(0));
            same("share", x.share(0, 5), 0);
            same("together", x.together(0, 0, last), 1 + (1 << last));
            same("blocks", x.blocks(0, 0, last), many - 1);
            same("isTwofold", x.isTwofold(0), false);
            same("enough", x.enough(0), 0);
            x.turn(2, 1);
            for (int level = 0; level < many; level++) {
                same("reach", x.reach(0, 2, level), 1 << (level + 1) % many);
                same("comes", x.comes(0, level) & all, 1 << level);
            }
        }
    }

    private static void cellsThatAreStill() {
        says(27, "STILL, and all MOVES that come of doing those of the SET's CELLS: with all CELLS still");
        for (int many = 2; many <= 7; many++) {
            Swaphouse x = withPoints(many);
            same("size", x.size(63, 0), 1);
            same("list", x.list(63, 0), "0");
            same("pieces", x.pieces(63), many);
            same("even", x.even(63), 1);
            same("isIn", x.isIn(63, 0, 0) && x.isIn(63, 0, 1), true);
            same("isPart", x.isPart(63, 0), true);
            same("shares", x.shares(63, 0), 1);
            same("shares", x.shares(0, 63), 1);
            same("blocks", x.blocks(63, 0, 1), many - 1);
            same("isTwofold", x.isTwofold(63), false);
            same("enough", x.enough(63), 0);
            same("nth", x.nth(63, 0, 0, 0), 0);
            same("nth", x.nth(63, 0, 1, 0), -9);
        }
    }

    // The promises 27 to 43

    private static void size() {
        says(27, "the CELL by whose ROW it is reckoned (it does not matter)");
        for (int many = 2; many <= 7; many++) {
            Swaphouse x = allMoves(many);
            x.mirror(2);
            x.turn(3, -1);
            x.lay(4, factorial(many) / 2);
            for (int row = 0; row < 6; row++) {
                same("size of all moves", x.size(3, row), factorial(many));
                same("size of all cells", x.size(63, row), factorial(many));
                same("size of one ring", x.size(1, row), many);
                same("size of no cells", x.size(0, row), 1);
            }
        }
    }

    private static void reach() {
        says(28, "REACH at a LEVEL k (0 to N - 1)");
        for (int many = 2; many <= 7; many++) {
            Swaphouse x = allMoves(many);
            x.mirror(2);
            int all = (1 << many) - 1;
            for (int level = 0; level < many; level++) {
                same("reach of all moves", x.reach(3, 5, level), all >> level << level);
                same("reach by the row from behind", x.reach(3, 2, level), all >> level);
                same("reach of one ring", x.reach(1, 5, level), level == 0 ? all : 1 << level);
            }
            int[] none = {LEAST, -1, many, many + 1, GREATEST};
            refusesEach(x, INDEX, none, level -> x.reach(3, 2, level));
        }
    }

    private static void reachAtTheLastLevel() {
        says(28, "those that bring each of the POINTS 0 to k - 1 to itself: at N - 1 STILL alone");
        for (int many = 2; many <= 7; many++) {
            Swaphouse x = allMoves(many);
            x.turn(2, 2);
            x.mirror(3);
            for (int row = 0; row < 6; row++) {
                same("reach", x.reach(63, row, many - 1), 1 << x.goes(row, many - 1));
                int lastTwo = 1 << x.goes(row, many - 1) | 1 << x.goes(row, many - 2);
                same("reach one level ahead", x.reach(63, row, many - 2), lastTwo);
                same("reach at the first level", x.reach(63, row, 0), x.comes(63, x.goes(row, 0)));
            }
        }
    }

    private static void isIn() {
        says(29, "0 by REACH, 1 by going through all MOVES (both are the same)");
        for (int many = 2; many <= 7; many++) {
            Swaphouse x = allMoves(many);
            x.mirror(2);
            x.copy(0, 3);
            x.exchange(3, many - 2, many - 1);
            for (int how = 0; how < 2; how++) {
                same("isIn of what is still", x.isIn(1, 5, how), true);
                same("isIn of itself", x.isIn(1, 0, how), true);
                same("isIn of the last move", x.isIn(3, 2, how), true);
                same("isIn of all cells", x.isIn(63, 3, how), true);
                same("isIn of one ring", x.isIn(1, 2, how), many == 2);
                same("isIn of one ring, but for two points", x.isIn(1, 3, how), many == 2);
            }
            refusesEach(x, ARGUMENT, new int[] {LEAST, -1, 2, GREATEST}, how -> x.isIn(3, 0, how));
        }
    }

    private static void rank() {
        says(30, "how many bring the first POINT of the ROW that they bring elsewhere than it does to a lesser POINT");
        for (int many = 2; many <= 7; many++) {
            Swaphouse x = allMoves(many);
            x.mirror(2);
            x.exchange(3, many - 2, many - 1);
            int last = factorial(many) - 1;
            same("rank of what is still", x.rank(3, 5, 5), 0);
            same("rank of the last one", x.rank(3, 5, 2), last);
            same("rank of the one behind what is still", x.rank(3, 5, 3), 1);
            same("rank by the row from behind", x.rank(3, 2, 5), last);
            same("rank by the row from behind", x.rank(3, 2, 2), 0);
            same("rank of what is still, in the SET 63", x.rank(63, 5, 5), 0);
            same("rank of the last one, in the SET 63", x.rank(63, 5, 2), last);
        }
        says(30, "to a lesser POINT, and not to one ahead of it in the ROW");
        Swaphouse x = allMoves(3);
        x.turn(2, 1);
        same("rank of what is still by the row 1 2 0", x.rank(3, 2, 5), 3);
        same("rank of 1 2 0 by the row 1 2 0", x.rank(3, 2, 2), 4);
    }

    private static void rankOfOneThatIsNotInIt() {
        says(30, "-1 if it is not in it");
        for (int many = 3; many <= 7; many++) {
            Swaphouse x = allMoves(many);
            x.exchange(2, many - 2, many - 1);
            for (int row = 0; row < 6; row++) {
                same("rank", x.rank(1, row, 2), -1);
                same("rank in no cells", x.rank(0, row, 0), -1);
                same("rank in cells that are still", x.rank(56, row, 1), -1);
            }
            same("house", house(x), "4 0 0");
        }
        Swaphouse two = withPoints(2);
        two.mirror(0);
        same("rank of two points", two.rank(62, 0, 0), -1);
        same("rank of two points", two.rank(63, 0, 0), 0);
        same("rank of two points", two.rank(63, 1, 0), 1);
    }

    private static void list() {
        says(31, "the NUMBERS of its GROUP's MOVES, rising, without the first ones");
        for (int many = 2; many <= 7; many++) {
            Swaphouse x = allMoves(many);
            int size = factorial(many);
            same("list without all but one", x.list(3, size - 1), Integer.toString(size - 1));
            same("list without all but two", x.list(3, size - 2), size - 2 + " " + (size - 1));
            same("list of the SET 63", x.list(63, size - 2), x.list(3, size - 2));
        }
        Swaphouse five = affineHouse(5, 4);
        TreeSet<Integer> numbers = affine(5, 4);
        for (int from = 0; from < 10; from++) {
            same("list without " + from, five.list(3, from), joined(numbers, from));
        }
    }

    private static void listBehindTheLastOne() {
        says(31, "\"\" if there are none");
        for (int many = 2; many <= 7; many++) {
            Swaphouse x = allMoves(many);
            int size = factorial(many);
            same("list without SIZE", x.list(3, size), "");
            same("list without SIZE + 1", x.list(3, size + 1), "");
            same("list without the greatest int", x.list(3, GREATEST), "");
            same("list without almost that", x.list(3, GREATEST - 19), "");
            same("list of no cells", x.list(0, 1), "");
            same("list of the SET 63", x.list(63, size), "");
            refusesEach(x, ARGUMENT, new int[] {LEAST, -20, -1}, from -> x.list(3, from));
        }
    }

    private static void listOfMoreThanTwenty() {
        says(31, "at most 20 of them, with \" \" between");
        Swaphouse twenty = affineHouse(5, 2);
        TreeSet<Integer> numbers = affine(5, 2);
        same("size", twenty.size(3, 0), 20);
        for (int from = 0; from <= 21; from++) {
            same("list of 20", twenty.list(3, from), joined(numbers, from));
        }
        Swaphouse twentyOne = affineHouse(7, 2);
        numbers = affine(7, 2);
        same("size", twentyOne.size(3, 0), 21);
        for (int from = 0; from <= 22; from++) {
            same("list of 21", twentyOne.list(3, from), joined(numbers, from));
        }
        same("last of the first 20", lastWord(allMoves(7).list(3, 0)), "19");
        same("last of 20 later ones", lastWord(allMoves(7).list(3, 5000)), "5019");
    }

    private static void comes() {
        says(32, "to itself by STILL; point is 0 to N - 1");
        for (int many = 2; many <= 7; many++) {
            Swaphouse x = allMoves(many);
            int all = (1 << many) - 1;
            same("comes of the first one", x.comes(1, 0), all);
            same("comes of the last one", x.comes(1, many - 1), all);
            same("comes of the last one, of all cells", x.comes(63, many - 1), all);
            same("comes of one that is exchanged", x.comes(2, 1), 3);
            same("comes of what is still", x.comes(60, many - 1), 1 << many - 1);
            refusesEach(x, INDEX, new int[] {LEAST, -1, many, many + 1, GREATEST}, point -> x.comes(3, point));
        }
    }

    private static void pieces() {
        says(33, "how many parts the POINTS have");
        for (int many = 2; many <= 7; many++) {
            Swaphouse x = allMoves(many);
            x.mirror(2);
            same("pieces: all in one", x.pieces(63), 1);
            same("pieces: each by itself", x.pieces(60 & ~4), many);
            same("pieces: all but two by themselves", x.pieces(2), many - 1);
            same("pieces: pairs, and the one in the middle", x.pieces(4), (many + 1) / 2);
        }
    }

    private static void withOrder() {
        int[] never = {8, 9, 11};
        for (int many = 2; many <= 7; many++) {
            says(34, "how many MOVES of its GROUP have that ORDER, 1 to 12");
            Swaphouse x = allMoves(many);
            int sum = 0;
            for (int order = 1; order <= 12; order++) {
                sum += x.withOrder(3, order);
            }
            same("withOrder of each one, summed up", sum, factorial(many));
            same("withOrder of 1: STILL alone", x.withOrder(3, 1), 1);
            same("withOrder of 1: STILL alone", x.withOrder(63, 1), 1);
            same("withOrder of 12", x.withOrder(3, 12), many == 7 ? 420 : 0);
            for (int order : never) {
                same("withOrder of " + order, x.withOrder(63, order), 0);
            }
            says(34, "Throws IllegalArgumentException if order is not 1 to 12");
            refusesEach(x, ARGUMENT, new int[] {LEAST, -1, 0, 13, 14, GREATEST}, order -> x.withOrder(3, order));
        }
    }

    private static void even() {
        says(35, "how many MOVES of its GROUP have SIGN 1: all, or half");
        for (int many = 2; many <= 7; many++) {
            Swaphouse x = allMoves(many);
            same("even of all moves", x.even(63), factorial(many) / 2);
            same("even of an exchange", x.even(2), 1);
            same("even of one ring", x.even(1), many % 2 == 0 ? many / 2 : many);
            same("even of what is still", x.even(32), 1);
        }
    }

    private static void colourings() {
        says(36, "both are the same; colours 1 to 3");
        for (int many = 2; many <= 7; many++) {
            Swaphouse x = allMoves(many);
            int[] power = {1, 1 << many, (int) Math.round(Math.pow(3, many))};
            int[] chosen = {1, many + 1, (many + 1) * (many + 2) / 2};
            for (int colours = 1; colours <= 3; colours++) {
                for (int how = 0; how < 2; how++) {
                    same("colourings by no cells", x.colourings(0, colours, how), power[colours - 1]);
                    same("colourings by what is still", x.colourings(60, colours, how), power[colours - 1]);
                    same("colourings by all moves", x.colourings(3, colours, how), chosen[colours - 1]);
                    same("colourings by all cells", x.colourings(63, colours, how), chosen[colours - 1]);
                }
            }
            for (int k = 0; k < 2; k++) {
                int how = k;
                refusesEach(x, ARGUMENT, new int[] {LEAST, -1, 0, 4, GREATEST}, c -> x.colourings(3, c, how));
            }
            refusesEach(x, ARGUMENT, new int[] {LEAST, -1, 2, GREATEST}, how -> x.colourings(3, 3, how));
        }
    }

    private static void isPart() {
        says(37, "Throws IllegalArgumentException if set or whole is not 0 to 63; a SET named twice");
        for (int many = 2; many <= 7; many++) {
            Swaphouse x = allMoves(many);
            same("isPart of itself", x.isPart(3, 3), true);
            same("isPart of all cells", x.isPart(63, 63), true);
            same("isPart of no cells in all", x.isPart(0, 63), true);
            same("isPart of all cells in none", x.isPart(63, 0), false);
            same("isPart of others that make the same", x.isPart(63, 3), true);
            same("isPart of an exchange in one ring", x.isPart(2, 1), many == 2);
            refusesSets(x, set -> x.isPart(set, 63));
            refusesSets(x, whole -> x.isPart(63, whole));
            refusesSets(x, set -> x.isPart(set, set));
        }
    }

    private static void shares() {
        says(38, "how many unlike SHARES; -9 if it is no PART of that");
        for (int many = 2; many <= 7; many++) {
            Swaphouse x = allMoves(many);
            same("shares by itself", x.shares(3, 3), 1);
            same("shares by all cells", x.shares(63, 63), 1);
            same("shares by no cells", x.shares(0, 63), factorial(many));
            same("shares by one ring", x.shares(1, 63), factorial(many - 1));
            same("shares by what is still", x.shares(60, 3), factorial(many));
            same("shares by no part", x.shares(3, 0), -9);
            same("shares by no part", x.shares(2, 60), -9);
            same("shares by an exchange in one ring", x.shares(2, 1), many == 2 ? 1 : -9);
            same("house", house(x), "3 0 0");
        }
    }

    private static void share() {
        says(39, "the least NUMBER of a MOVE in the SHARE");
        for (int many = 2; many <= 7; many++) {
            Swaphouse x = allMoves(many);
            x.mirror(2);
            int last = factorial(many) - 1;
            same("share by all moves", x.share(3, 2), 0);
            same("share by all cells", x.share(63, 5), 0);
            same("share by no cells", x.share(0, 2), last);
            same("share by what is still", x.share(56, 2), last);
            same("share of what is still", x.share(1, 5), 0);
            same("share: the last move turned", x.share(1, 2), factorial(many - 1) - 1);
            refusesCells(x, cell -> x.share(3, cell));
        }
    }

    private static void blocksOfTheSame() {
        says(40, "another POINT, perhaps the same");
        for (int many = 2; many <= 7; many++) {
            Swaphouse x = allMoves(many);
            for (int point = 0; point < many; point++) {
                same("together", x.together(63, point, point), 1 << point);
                same("blocks", x.blocks(63, point, point), many);
                same("together of no cells", x.together(0, point, point), 1 << point);
                same("blocks of no cells", x.blocks(0, point, point), many);
            }
        }
    }

    private static void blocksAtTheLastPoints() {
        says(41, "one and other are 0 to N - 1");
        for (int many = 2; many <= 7; many++) {
            Swaphouse x = allMoves(many);
            int all = (1 << many) - 1;
            int last = many - 1;
            same("together", x.together(3, last, 0), all);
            same("together", x.together(3, 0, last), all);
            same("blocks", x.blocks(3, last, 0), 1);
            same("together of the two that are exchanged", x.together(2, 0, 1), 3);
            same("blocks of the two that are exchanged", x.blocks(2, 0, 1), many - 1);
            same("together in the SET 63", x.together(63, last, 0), all);
            int[] none = {LEAST, -1, many, many + 1, GREATEST};
            refusesEach(x, INDEX, none, point -> x.together(3, point, last));
            refusesEach(x, INDEX, none, point -> x.together(3, last, point));
            refusesEach(x, INDEX, none, point -> x.together(3, point, point));
            refusesEach(x, INDEX, none, point -> x.blocks(3, point, last));
            refusesEach(x, INDEX, none, point -> x.blocks(3, last, point));
            refusesEach(x, INDEX, none, point -> x.blocks(3, point, point));
        }
    }

    private static void blocksThatSpreadFromCellToCell() {
        says(40, "KEPT, if each MOVE of the GROUP brings POINTS that are together in it to POINTS that are together");
        for (int first = 0; first <= 4; first += 4) {
            Swaphouse x = withPoints(7);
            for (int k = 0; k < 5; k++) {
                x.exchange(Math.abs(first - k), k, k + 1);
            }
            for (int point = 0; point < 6; point++) {
                same("together with the one that stays", x.together(31, point, 6), 127);
                same("together with the one that stays", x.together(31, 6, point), 127);
                same("blocks with the one that stays", x.blocks(31, point, 6), 1);
                same("together with the next one", x.together(31, point, (point + 1) % 6), 63);
                same("blocks with the next one", x.blocks(31, point, (point + 1) % 6), 2);
            }
        }
    }

    private static void blocksThatSpreadAlongRings() {
        says(41, "of all KEPT partings in which these two are together that with the most parts");
        Swaphouse x = withPoints(7);
        int[][] rings = {{0, 1, 3}, {2, 6, 5, 4}};
        x.ring(0, 0, 1, 3);
        x.ring(0, 2, 6, 5);
        x.exchange(0, 2, 4);
        same("text", x.text(0), "1 3 6 0 2 4 5");
        for (int three : rings[0]) {
            for (int four : rings[1]) {
                same("together over a ring of three and one of four", x.together(1, three, four), 127);
                same("blocks over a ring of three and one of four", x.blocks(1, four, three), 1);
            }
        }
        for (int i = 0; i < 4; i++) {
            int[] ring = rings[1];
            same("together with the next one but one", x.together(1, ring[i], ring[(i + 2) % 4]),
                    1 << ring[i] | 1 << ring[(i + 2) % 4]);
            same("blocks with the next one but one", x.blocks(1, ring[i], ring[(i + 2) % 4]), 5);
            same("together with the next one", x.together(1, ring[i], ring[(i + 1) % 4]), 116);
            same("blocks with the next one", x.blocks(1, ring[i], ring[(i + 1) % 4]), 4);
        }
    }

    private static void isTwofold() {
        says(42, "for any two unlike POINTS and any two unlike POINTS");
        for (int many = 2; many <= 7; many++) {
            Swaphouse x = allMoves(many);
            x.mirror(2);
            same("isTwofold of all moves", x.isTwofold(63), true);
            same("isTwofold of one ring", x.isTwofold(1), many == 2);
            same("isTwofold of one ring, mirrored", x.isTwofold(5), many <= 3);
            same("isTwofold of an exchange", x.isTwofold(2), many == 2);
            same("isTwofold of no cells", x.isTwofold(0), false);
        }
        same("isTwofold with the fewest moves", affineHouse(5, 2).isTwofold(3), true);
        same("isTwofold with the fewest moves", affineHouse(7, 3).isTwofold(3), true);
        same("isTwofold with half of them", affineHouse(5, 4).isTwofold(3), false);
        same("isTwofold with half of them", affineHouse(7, 2).isTwofold(3), false);
        says(42, "one POINT that stays, and the others in all ways");
        Swaphouse stays = withPoints(5);
        stays.ring(0, 1, 2, 3);
        stays.exchange(1, 3, 4);
        same("isTwofold", stays.isTwofold(3), false);
        stays.points(5);
        stays.ring(0, 0, 1, 2);
        stays.exchange(1, 2, 3);
        same("isTwofold", stays.isTwofold(3), false);
    }

    private static void enough() {
        says(43, "one is taken, if its MOVE is not in the GROUP of those that were taken ahead");
        for (int many = 2; many <= 7; many++) {
            Swaphouse x = withPoints(many);
            same("enough of what is still", x.enough(63), 0);
            for (int cell = 0; cell < 6; cell++) {
                x.mirror(cell);
            }
            same("enough of six times the same", x.enough(63), 1);
            same("enough without the first one", x.enough(62), 2);
            same("enough of the last one alone", x.enough(32), 32);
            x.lay(0, 0);
            same("enough with the first one still", x.enough(63), 2);
            for (int cell = 1; cell < 5; cell++) {
                x.lay(cell, 0);
            }
            same("enough with all still but the last one", x.enough(63), 32);
            same("enough of no cells", x.enough(0), 0);
        }
    }

    private static void enoughLooksByRisingNumbers() {
        says(43, "its CELLS are looked at by rising numbers");
        Swaphouse x = withPoints(6);
        x.turn(0, 3);
        x.turn(1, 2);
        x.turn(2, 1);
        x.turn(5, -1);
        same("enough: both halves first", x.enough(63), 3);
        same("enough: the whole behind one half", x.enough(5), 5);
        same("enough: the whole behind the other half", x.enough(38), 6);
        x.swap(0, 5);
        same("enough: the whole first", x.enough(63), 1);
        same("enough without the first one", x.enough(62), 6);
        same("enough of the last two that count", x.enough(36), 4);
    }
}
