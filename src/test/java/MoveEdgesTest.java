/** The document's sentences on MOVES that name a boundary case: "1. Points, moves" and the promises 16 to 26. */
public final class MoveEdgesTest extends Checks {
    private static final String[] STILL = {"0 1", "0 1 2", "0 1 2 3", "0 1 2 3 4", "0 1 2 3 4 5", "0 1 2 3 4 5 6"};

    public static void main(String[] args) {
        movesInSequence();
        firstAndLastNumber();
        greatestOrders();
        signs();
        unlikeCells();
        count();
        number();
        goes();
        text();
        rings();
        ringText();
        order();
        stays();
        areAlike();
        commute();
        finish("MoveEdgesTest");
    }

    // 1. Points, moves

    /** The texts have one figure for each POINT, so that the one that comes first as a text is AHEAD. */
    private static void movesInSequence() {
        says(3, "NUMBER: how many of all MOVES are AHEAD of it");
        for (int many = 2; many <= 6; many++) {
            String before = "";
            Swaphouse x = withPoints(many);
            for (int number = 0; number < factorial(many); number++) {
                if (number % 150 == 149) {
                    x = withPoints(many);
                }
                x.lay(0, number);
                String text = x.text(0);
                same("text " + text + " behind " + before, before.compareTo(text) < 0, true);
                same("number", x.number(0), number);
                before = text;
            }
        }
    }

    private static void firstAndLastNumber() {
        says(17, "STILL 0; the greatest is N! - 1");
        for (int many = 2; many <= 7; many++) {
            Swaphouse x = withPoints(many);
            same("number of what is still", x.number(0), 0);
            x.mirror(0);
            same("number of the last one", x.number(0), factorial(many) - 1);
            x.exchange(1, many - 2, many - 1);
            same("number of the one behind what is still", x.number(1), 1);
            x.mirror(2);
            x.exchange(2, 0, 1);
            same("number of the one ahead of the last one", x.number(2), factorial(many) - 2);
            x.turn(3, 1);
            x.turn(3, -1);
            same("number of what was turned back", x.number(3), 0);
        }
    }

    private static void greatestOrders() {
        says(22, "ORDER: how often a MOVE must be done, at least once, till it is STILL");
        int[] greatest = {2, 3, 4, 6, 6, 12};
        for (int many = 2; many <= 7; many++) {
            Swaphouse x = withPoints(many);
            int found = 0;
            for (int number = 0; number < factorial(many); number++) {
                if (number % 200 == 199) {
                    x = withPoints(many);
                }
                x.lay(0, number);
                found = Math.max(found, x.order(0));
            }
            same("greatest order", found, greatest[many - 2]);
        }
    }

    private static void signs() {
        says(23, "SIGN: 1, if N less the number of its RINGS is even, otherwise -1");
        for (int many = 2; many <= 7; many++) {
            Swaphouse x = withPoints(many);
            same("sign of what is still", x.sign(0), 1);
            x.exchange(1, 0, 1);
            same("sign of an exchange", x.sign(1), -1);
            x.turn(2, 1);
            same("sign of one ring of all", x.sign(2), many % 2 == 0 ? -1 : 1);
        }
        Swaphouse x = new Swaphouse();
        x.exchange(0, 0, 1);
        x.exchange(0, 2, 3);
        same("sign of two exchanges", x.sign(0), 1);
    }

    private static void unlikeCells() {
        says(17, "There are six CELLS, 0 to 5, each with a MOVE");
        Swaphouse x = withPoints(7);
        for (int cell = 0; cell < 6; cell++) {
            x.lay(cell, 1000 * cell / 2 + 7);
        }
        for (int cell = 0; cell < 6; cell++) {
            same("number", x.number(cell), 500 * cell + 7);
        }
    }

    // The promises 16 to 26

    private static void count() {
        says(16, "N is 2 to 7, at first 4");
        Swaphouse x = new Swaphouse();
        same("count", x.count(), 4);
        for (int many = 2; many <= 7; many++) {
            x.points(many);
            same("count", x.count(), many);
            refuses(x, ARGUMENT, () -> x.points(8));
            same("count", x.count(), many);
        }
    }

    private static void number() {
        says(17, "Throws IndexOutOfBoundsException if cell is not 0 to 5");
        Swaphouse x = new Swaphouse();
        x.lay(0, 5);
        x.lay(5, 6);
        same("number", x.number(0), 5);
        same("number", x.number(5), 6);
        refusesCells(x, x::number);
    }

    private static void goes() {
        says(18, "or point is not 0 to N - 1");
        for (int many = 2; many <= 7; many++) {
            Swaphouse x = withPoints(many);
            x.turn(0, 1);
            same("goes of the first one", x.goes(0, 0), 1);
            same("goes of the last one", x.goes(0, many - 1), 0);
            same("goes of the last one that stays", x.goes(5, many - 1), many - 1);
            refusesEach(x, INDEX, new int[] {LEAST, -1, many, many + 1, GREATEST}, point -> x.goes(0, point));
        }
    }

    private static void text() {
        says(19, "the POINTS to which its MOVE brings 0 to N - 1, with \" \" between");
        for (int many = 2; many <= 7; many++) {
            Swaphouse x = withPoints(many);
            same("text of what is still", x.text(5), STILL[many - 2]);
            x.mirror(5);
            same("text", x.text(5), new StringBuilder(STILL[many - 2]).reverse().toString());
        }
    }

    private static void rings() {
        says(20, "rising; one that is brought to itself makes a RING of length 1");
        String ones = "1 1 1 1 1 1 1";
        for (int many = 2; many <= 7; many++) {
            Swaphouse x = withPoints(many);
            same("rings of what is still", x.rings(5), ones.substring(0, 2 * many - 1));
            x.turn(0, 1);
            same("rings of one ring of all", x.rings(0), Integer.toString(many));
            x.exchange(1, 0, many - 1);
            same("rings of an exchange", x.rings(1), ones.substring(0, 2 * many - 4).concat("2"));
        }
        Swaphouse x = withPoints(7);
        x.ring(0, 0, 1, 2);
        x.exchange(0, 5, 6);
        same("rings: the longer one is first found", x.rings(0), "1 1 2 3");
        x.exchange(0, 3, 4);
        same("rings", x.rings(0), "2 2 3");
        x.ring(1, 0, 1, 2);
        x.ring(1, 4, 5, 6);
        same("rings", x.rings(1), "1 3 3");
        x.exchange(1, 3, 4);
        same("rings", x.rings(1), "3 4");
    }

    private static void ringText() {
        says(21, "that one first, each one's next one behind it");
        for (int many = 2; many <= 7; many++) {
            Swaphouse x = withPoints(many);
            x.turn(0, 1);
            x.mirror(1);
            String twice = STILL[many - 2].concat(" ").concat(STILL[many - 2]);
            for (int point = 0; point < many; point++) {
                String alone = Integer.toString(point);
                same("ringText of one that stays", x.ringText(5, point), alone);
                same("ringText of all", x.ringText(0, point), twice.substring(2 * point, 2 * (point + many) - 1));
                String pair = point + " " + (many - 1 - point);
                same("ringText", x.ringText(1, point), 2 * point == many - 1 ? alone : pair);
            }
            refusesEach(x, INDEX, new int[] {LEAST, -1, many, many + 1, GREATEST}, point -> x.ringText(0, point));
        }
    }

    private static void order() {
        says(22, "at least once");
        for (int many = 2; many <= 7; many++) {
            Swaphouse x = withPoints(many);
            same("order of what is still", x.order(0), 1);
            x.exchange(0, 0, 1);
            same("order of an exchange", x.order(0), 2);
            x.turn(1, 1);
            same("order of one ring of all", x.order(1), many);
        }
        Swaphouse x = withPoints(7);
        x.turn(0, 1);
        x.exchange(0, 0, 1);
        same("order", x.order(0), 6);
        x.points(7);
        x.ring(0, 0, 1, 2);
        x.ring(0, 3, 4, 5);
        x.exchange(0, 5, 6);
        same("order", x.order(0), 12);
        x.points(7);
        x.exchange(0, 0, 1);
        x.ring(0, 2, 3, 4);
        x.ring(0, 4, 5, 6);
        same("order", x.order(0), 10);
    }

    private static void stays() {
        says(24, "the sum of 2^p for each POINT p that its MOVE brings to itself");
        for (int many = 2; many <= 7; many++) {
            Swaphouse x = withPoints(many);
            int all = (1 << many) - 1;
            same("stays: all of them", x.stays(5), all);
            x.turn(0, 1);
            same("stays: none", x.stays(0), 0);
            x.exchange(1, many - 2, many - 1);
            same("stays: all but the last two", x.stays(1), all >> 2);
            x.exchange(2, 0, 1);
            same("stays: all but the first two", x.stays(2), all - 3);
        }
    }

    private static void areAlike() {
        says(25, "the same ones, each as often");
        Swaphouse x = withPoints(7);
        x.exchange(0, 5, 6);
        x.exchange(1, 0, 1);
        x.exchange(1, 2, 3);
        x.exchange(2, 1, 2);
        x.ring(3, 0, 1, 2);
        x.turn(4, 1);
        for (int one = 0; one < 6; one++) {
            for (int other = 0; other < 6; other++) {
                boolean alike = one == other || one + other == 2 && one != 1;
                same("areAlike", x.areAlike(one, other), alike);
            }
        }
        x.exchange(1, 4, 5);
        same("areAlike: two of length 2 against three", x.areAlike(0, 1), false);
        x.undo(4, 5);
        same("areAlike", x.areAlike(4, 5), true);
        Swaphouse two = withPoints(2);
        two.mirror(0);
        same("areAlike of two points", two.areAlike(0, 1), false);
        same("areAlike of two points", two.areAlike(1, 2), true);
    }

    private static void commute() {
        says(26, "the MOVE of one, then that of other, is that of other, then that of one");
        Swaphouse x = withPoints(7);
        x.exchange(0, 5, 6);
        x.exchange(1, 4, 5);
        x.exchange(2, 0, 1);
        x.turn(3, 1);
        x.turn(4, -3);
        for (int cell = 0; cell < 6; cell++) {
            same("commute of a cell with itself", x.commute(cell, cell), true);
            same("commute with what is still", x.commute(cell, 5), true);
            same("commute with what is still", x.commute(5, cell), true);
        }
        same("commute at the last points", x.commute(0, 1), false);
        same("commute at the last points", x.commute(1, 0), false);
        same("commute apart", x.commute(0, 2), true);
        same("commute", x.commute(3, 4), true);
        same("commute", x.commute(0, 3), false);
        Swaphouse two = withPoints(2);
        two.mirror(0);
        two.mirror(1);
        same("commute of two points", two.commute(0, 1), true);
        same("commute of two points", two.commute(0, 2), true);
    }
}
