/** Promises 1 to 9, and 54: the course, its players, the seed and the edition. */
public final class CourseTest {
    public static void main(String[] args) {
        newObject();
        holes();
        holesRefused();
        areas();
        areasRefused();
        kinds();
        players();
        handicaps();
        gets();
        seeds();
        editions();
        checksums();
        Check.end();
    }

    private static void newObject() {
        FairwayChancery x = new FairwayChancery();
        Check.same("1: the sum of no course", x.checksum(), 7L);
        Check.yes("1: sound", x.isSound());
        Check.bounds("1: no holes", () -> x.kindAt(0, 0, 0));
        Check.bounds("1: no players", () -> x.isOut(0));
        Check.unsupported("1: nothing to begin", () -> x.begin('s'));
        Check.unsupported("1: no match", () -> x.up());
        Check.unsupported("1: no match", () -> x.isMatchOver());
        Check.state("1: no round", () -> x.holeOn());
        Check.same("1: nobody makes a cut", x.cut(6), 0);
        Check.same("1: the conditions", x.conditions(0), 0);
        Check.same("1: the first player", x.player(), 0);
    }

    private static void holes() {
        FairwayChancery x = new FairwayChancery();
        Check.same("2: par 3, the corners", x.hole(3, 9, 0, 0, 29, 19), 0);
        Check.same("2: par 5, the other corners", x.hole(5, 1, 29, 0, 0, 19), 1);
        for (int i = 2; i < 9; i++) {
            Check.same("2: a hole", x.hole(4, i, 10, 10, 5, 5), i);
        }
        Check.state("2: a tenth hole", () -> x.hole(4, 5, 10, 10, 5, 5));
        Check.argument("2: out of range ahead of full", () -> x.hole(6, 5, 10, 10, 5, 5));
        Check.same("2: all holes", begun(x), 9);
    }

    private static int begun(FairwayChancery x) {
        x.player();
        return x.begin('s');
    }

    private static void holesRefused() {
        FairwayChancery x = new FairwayChancery();
        int[][] wrong = {{2, 1, 5, 5, 6, 6}, {6, 1, 5, 5, 6, 6}, {4, 0, 5, 5, 6, 6}, {4, 10, 5, 5, 6, 6},
            {4, 1, -1, 5, 6, 6}, {4, 1, 30, 5, 6, 6}, {4, 1, 5, -1, 6, 6}, {4, 1, 5, 20, 6, 6},
            {4, 1, 5, 5, -1, 6}, {4, 1, 5, 5, 30, 6}, {4, 1, 5, 5, 6, -1}, {4, 1, 5, 5, 6, 20},
            {4, 1, 5, 5, 5, 5}, {Integer.MIN_VALUE, 1, 5, 5, 6, 6}, {4, 1, Integer.MAX_VALUE, 5, 6, 6}};
        for (int[] w : wrong) {
            Check.argument("2: " + java.util.Arrays.toString(w), () -> x.hole(w[0], w[1], w[2], w[3], w[4], w[5]));
        }
        Check.bounds("2: nothing was added", () -> x.kindAt(0, 0, 0));
        x.hole(4, 1, 5, 5, 6, 5);
        Check.unsupported("2: the index again", () -> x.hole(4, 1, 8, 8, 9, 9));
        Check.same("2: the same cup and tee on another hole", x.hole(4, 2, 5, 5, 6, 5), 1);
        x.player();
        x.begin('s');
        Check.state("2: while a round is on", () -> x.hole(4, 3, 5, 5, 6, 6));
        Check.state("2: begun ahead of the index", () -> x.hole(4, 1, 5, 5, 6, 6));
        Check.argument("2: range ahead of begun", () -> x.hole(4, 3, 5, 5, 5, 5));
    }

    private static void areas() {
        FairwayChancery x = Play.flat(0);
        Check.same("3: an area", x.area(0, 'g', 3, 4, 5, 6), 1);
        Check.same("3: one cell, over it", x.area(0, '.', 4, 5, 4, 5), 2);
        Check.same("3: all cells of a row", x.area(0, 'o', 0, 19, 29, 19), 3);
        Check.same("3: both ends", x.kindAt(0, 3, 4), 'g');
        Check.same("3: both ends", x.kindAt(0, 5, 6), 'g');
        Check.same("3: beside it", x.kindAt(0, 2, 4), '.');
        Check.same("3: beside it", x.kindAt(0, 6, 6), '.');
        Check.same("3: beside it", x.kindAt(0, 3, 3), '.');
        Check.same("3: beside it", x.kindAt(0, 5, 7), '.');
        Check.same("3: the last one holds", x.kindAt(0, 4, 5), '.');
        Check.same("3: the row's end", x.kindAt(0, 29, 19), 'o');
        String kinds = "gbdyrwpo.";
        for (int i = 0; i < 9; i++) {
            Check.same("3: all kinds", x.area(0, kinds.charAt(i), 10, 10, 10, 10), i + 4);
            Check.same("3: all kinds", x.kindAt(0, 10, 10), kinds.charAt(i));
        }
        Check.state("3: a thirteenth", () -> x.area(0, 'g', 1, 1, 1, 1));
        Check.same("3: nothing changed", x.kindAt(0, 1, 1), '.');
        x.hole(3, 2, 1, 1, 2, 2);
        Check.same("3: each hole its own", x.area(1, 'w', 0, 0, 29, 19), 1);
        Check.same("3: each hole its own", x.kindAt(0, 1, 1), '.');
    }

    private static void areasRefused() {
        FairwayChancery x = Play.flat(1);
        Check.bounds("3: no such hole", () -> x.area(1, 'g', 1, 1, 2, 2));
        Check.bounds("3: no such hole, and kind", () -> x.area(-1, 'q', 1, 1, 2, 2));
        for (char kind : new char[] {'c', 'f', 'q', 'G', 0, ' ', (char) 65535, 'n'}) {
            Check.argument("3: no such kind", () -> x.area(0, kind, 1, 1, 2, 2));
        }
        int[][] wrong = {{-1, 1, 2, 2}, {1, -1, 2, 2}, {1, 1, 30, 2}, {1, 1, 2, 20}, {3, 1, 2, 2}, {1, 3, 2, 2}};
        for (int[] w : wrong) {
            Check.argument("3: " + java.util.Arrays.toString(w), () -> x.area(0, 'g', w[0], w[1], w[2], w[3]));
        }
        x.begin('s');
        Check.state("3: a round has begun", () -> x.area(0, 'g', 1, 1, 2, 2));
        Check.argument("3: the kind ahead of begun", () -> x.area(0, 'q', 1, 1, 2, 2));
        x.pickUp(0);
        x.nextHole();
        Check.state("3: also behind the round", () -> x.area(0, 'g', 1, 1, 2, 2));
        Check.state("2: also behind the round", () -> x.hole(4, 3, 5, 5, 6, 6));
        Check.state("5: also behind the round", () -> x.player());
        Check.same("3: nothing changed", x.kindAt(0, 1, 1), '.');
    }

    private static void kinds() {
        FairwayChancery x = Play.flat(0);
        Check.same("4: ground at first", x.kindAt(0, 0, 0), '.');
        Check.same("4: ground at first", x.kindAt(0, 29, 19), '.');
        Check.same("4: the cup has the kind of its cell", x.kindAt(0, 25, 10), '.');
        int[][] wrong = {{1, 0, 0}, {-1, 0, 0}, {0, -1, 0}, {0, 30, 0}, {0, 0, -1}, {0, 0, 20}};
        for (int[] w : wrong) {
            Check.bounds("4: " + java.util.Arrays.toString(w), () -> x.kindAt(w[0], w[1], w[2]));
        }
    }

    private static void players() {
        FairwayChancery x = Play.flat(0);
        for (int i = 0; i < 6; i++) {
            Check.same("5: a player", x.player(), i);
        }
        Check.state("5: a seventh", () -> x.player());
        Check.bounds("5: no seventh", () -> x.isOut(6));
        FairwayChancery y = Play.flat(1);
        y.begin('s');
        Check.state("5: a round has begun", () -> y.player());
        Check.bounds("5: nobody was added", () -> y.isOut(1));
    }

    private static void handicaps() {
        FairwayChancery x = Play.flat(2);
        Check.same("6: 0 at first", x.setHandicap(1, 36), 0);
        Check.same("6: the one before", x.setHandicap(1, 0), 36);
        Check.bounds("6: no such player", () -> x.setHandicap(2, -1));
        Check.bounds("6: no such player", () -> x.setHandicap(-1, 5));
        Check.argument("6: too high", () -> x.setHandicap(0, 37));
        Check.argument("6: too low", () -> x.setHandicap(0, -1));
        x.begin('s');
        Check.state("6: a round is on", () -> x.setHandicap(0, 5));
        Check.argument("6: the range ahead of it", () -> x.setHandicap(0, 37));
        x.pickUp(0);
        x.pickUp(1);
        x.nextHole();
        Check.same("6: the round is over", x.setHandicap(0, 5), 0);
        Check.same("6: kept", x.setHandicap(0, 6), 5);
    }

    private static void gets() {
        FairwayChancery x = new FairwayChancery();
        x.hole(4, 7, 25, 10, 3, 10);
        x.hole(4, 2, 25, 10, 3, 10);
        x.hole(4, 9, 25, 10, 3, 10);
        x.player();
        Check.same("7: none at first", x.gets(0, 0), 0);
        x.setHandicap(0, 7);
        Check.same("7: 7 on 3 holes, the second index", x.gets(0, 0), 2);
        Check.same("7: 7 on 3 holes, the lowest index", x.gets(0, 1), 3);
        Check.same("7: 7 on 3 holes, the highest index", x.gets(0, 2), 2);
        x.setHandicap(0, 2);
        Check.same("7: 2 on 3 holes", x.gets(0, 0), 1);
        Check.same("7: 2 on 3 holes", x.gets(0, 1), 1);
        Check.same("7: 2 on 3 holes", x.gets(0, 2), 0);
        x.setHandicap(0, 36);
        Check.same("7: 36 on 3 holes", x.gets(0, 2), 12);
        x.hole(4, 1, 25, 10, 3, 10);
        Check.same("7: 36 on 4 holes", x.gets(0, 2), 9);
        Check.bounds("7: no such hole", () -> x.gets(0, 4));
        Check.bounds("7: no such hole", () -> x.gets(0, -1));
        Check.bounds("7: no such player", () -> x.gets(1, 0));
        Check.bounds("7: no such player", () -> x.gets(-1, 0));
    }

    private static void seeds() {
        FairwayChancery x = Play.flat(1);
        Check.same("8: 1 at first", x.setSeed(-5), 1);
        Check.same("8: the one before", x.setSeed(1), -5);
        x.begin('s');
        Check.same("8: a round leaves it", x.setSeed(1), 1);
        x.stroke(0, 10, 10);
        Check.same("8: two draws on", x.setSeed(Integer.MIN_VALUE), Play.next(Play.next(1)));
        Check.same("8: any number", x.setSeed(0), Integer.MIN_VALUE);
    }

    private static void editions() {
        FairwayChancery x = new FairwayChancery();
        Check.same("9: new at first", x.edition('o'), 'n');
        Check.same("9: the one before", x.edition('o'), 'o');
        Check.same("9: the one before", x.edition('n'), 'o');
        for (char no : new char[] {'N', 'x', 0, (char) 65535}) {
            Check.argument("9: no such edition", () -> x.edition(no));
        }
        Check.same("9: nothing changed", x.edition('n'), 'n');
    }

    private static void checksums() {
        FairwayChancery x = new FairwayChancery();
        Check.same("54: no hole", x.checksum(), 7L);
        x.hole(4, 1, 25, 10, 3, 10);
        x.area(0, 'd', 29, 0, 29, 0);
        x.area(0, 'b', 0, 1, 0, 1);
        x.hole(4, 2, 25, 10, 3, 10);
        x.area(1, 'o', 29, 19, 29, 19);
        long due = 7;
        for (int hole = 0; hole < 2; hole++) {
            for (int y = 0; y < 20; y++) {
                for (int cell = 0; cell < 30; cell++) {
                    char kind = '.';
                    if (hole == 0 && cell == 29 && y == 0) {
                        kind = 'd';
                    }
                    if (hole == 0 && cell == 0 && y == 1) {
                        kind = 'b';
                    }
                    if (hole == 1 && cell == 29 && y == 19) {
                        kind = 'o';
                    }
                    due = 31 * due + kind;
                }
            }
        }
        Check.same("54: two holes", x.checksum(), due);
        x.area(1, '.', 29, 19, 29, 19);
        Check.same("54: the last cell counts", x.checksum(), due - 'o' + '.');
    }
}
