/** Promises 17 to 25: each clause by which relief, a wrong place, a move or a wrong ball is refused. */
public final class RefusedReliefTest {
    private static final char[] CAUSES = {'p', 'e', 'k', 'w'};

    public static void main(String[] args) {
        onTheTee();
        inAWrongPlace();
        linesNotAllowed();
        asidesNotAllowed();
        notOnRepairOrPath();
        withoutPoint();
        cellsForFree();
        cellsForWrongPlaces();
        secondWrongPlace();
        nothingToCorrect();
        windToNoCell();
        wrongBalls();
        Check.end();
    }

    /** Two players, the first one's ball at 13, 10 with 1 stroke; the cup is at 25, 10, the tee at 3, 10. */
    private static FairwayChancery lying(char format, Object... areas) {
        FairwayChancery x = Play.flat(2);
        for (int i = 0; i + 4 < areas.length; i += 5) {
            x.area(0, (char) areas[i], (int) areas[i + 1], (int) areas[i + 2], (int) areas[i + 3],
                    (int) areas[i + 4]);
        }
        x.begin(format);
        Play.to(x, 0, 13, 10);
        return x;
    }

    private static void onTheTee() {
        for (char ground : new char[] {'.', 'w', 'p', 'y'}) {
            FairwayChancery x = lying('s', ground, 3, 10, 3, 10);
            Play.to(x, 1, 13, 12);
            x.again(0);
            Refused.by("u", x, "line", 0, 1);
            Refused.by("au", x, "line", 0, 10);
            Refused.by("u", x, "aside", 0, 3, 9);
            Refused.by("u", x, "point", 0, true);
            Refused.by("u", x, "point", 0, false);
            Refused.by("u", x, "free", 0, 3, 9);
            Refused.by("u", x, "wrongPlace", 0, 3, 9);
            for (char by : CAUSES) {
                Refused.by("u", x, "move", 0, by, 3, 9);
            }
            Refused.by("u", x, "wrongBall", 0, 1);
            Refused.by("u", x, "wrongBall", 1, 0);
            Check.same("17: but again", x.again(0), 3);
        }
    }

    private static void inAWrongPlace() {
        FairwayChancery x = lying('s', 'w', 13, 12, 13, 12);
        Play.to(x, 1, 13, 14);
        x.wrongPlace(0, 13, 12);
        Refused.by("u", x, "line", 0, 1);
        Refused.by("u", x, "aside", 0, 13, 13);
        Refused.by("u", x, "point", 0, true);
        Refused.by("u", x, "free", 0, 13, 11);
        Refused.by("u", x, "wrongPlace", 0, 13, 13);
        Refused.by("u", x, "wrongPlace", 0, 13, 12);
        Refused.by("u", x, "correct", 0);
        for (char by : CAUSES) {
            Refused.by("u", x, "move", 0, by, 13, 13);
        }
        Refused.by("u", x, "wrongBall", 0, 1);
        Refused.by("u", x, "wrongBall", 1, 0);
        Refused.by("u", x, "wrongBall", 0, 0);
        Refused.by("u", x, "stroke", 0, 13, 12);
        Check.same("17: no other relief than again", x.again(0), 2);
    }

    private static void linesNotAllowed() {
        FairwayChancery x = lying('s', 'y', 12, 10, 12, 10, 'r', 11, 10, 11, 10, 'o', 10, 10, 10, 10);
        for (int times = 1; times <= 3; times++) {
            Refused.by("u", x, "line", 0, times);
        }
        Refused.by("bu", x, "line", 2, 1);
        FairwayChancery edge = lying('s');
        Play.to(edge, 0, 8, 10);
        Refused.by("u", edge, "line", 0, 9);
        Check.same("18: at the edge", edge.line(0, 8), 3);
        Play.lies(edge, 0, 0, 10, "18: at the edge");
        for (int times = 1; times <= 9; times++) {
            Refused.by("u", edge, "line", 0, times);
        }
        // Over the upper, the lower and the right edge.
        int[][] ends = {{12, 25, 19}, {8, 25, 0}, {10, 29, 10}};
        for (int[] end : ends) {
            FairwayChancery y = lying('s');
            Play.to(y, 0, 22, end[0]);
            Play.to(y, 0, end[1], end[2]);
            Refused.by("u", y, "line", 0, 1);
        }
    }

    private static void asidesNotAllowed() {
        FairwayChancery yellow = lying('s', 'y', 13, 10, 13, 10);
        for (int y = 8; y <= 12; y++) {
            for (int x = 11; x <= 13; x++) {
                Refused.by("u", yellow, "aside", 0, x, y);
            }
        }
        FairwayChancery x = lying('s', 'y', 12, 10, 12, 10, 'r', 12, 11, 12, 11, 'o', 12, 9, 12, 9);
        int[][] no = {{12, 10}, {12, 11}, {12, 9}, {14, 10}, {14, 11}, {10, 10}, {12, 12}, {13, 13}};
        for (int[] c : no) {
            Refused.by("u", x, "aside", 0, c[0], c[1]);
        }
        FairwayChancery near = lying('s');
        Play.to(near, 0, 23, 10);
        Refused.by("u", near, "aside", 0, 25, 10);
        Refused.by("u", near, "aside", 0, 24, 10);
    }

    private static void notOnRepairOrPath() {
        for (char ground : new char[] {'.', 'g', 'b', 'd', 'y', 'r'}) {
            FairwayChancery x = lying('s', ground, 13, 10, 13, 10);
            if (ground == 'd') {
                Play.search(x, 0, false);
            }
            Play.lies(x, 0, 13, 10, "20: on " + ground);
            Refused.by("u", x, "point", 0, true);
            Refused.by("u", x, "free", 0, 13, 9);
            Refused.by("u", x, "free", 0, 25, 10);
        }
    }

    private static void withoutPoint() {
        FairwayChancery x = lying('s', 'w', 0, 0, 29, 19, '.', 20, 6, 29, 14, 'b', 21, 7, 21, 7);
        Refused.by("n", x, "point", 0, true);
        Refused.by("n", x, "point", 0, false);
        Refused.by("n", x, "free", 0, 20, 10);
        Refused.by("n", x, "free", 0, 29, 14);
        Refused.by("un", x, "free", 0, 25, 10);
        Refused.by("un", x, "free", 0, 21, 7);
        Refused.by("un", x, "free", 0, 13, 10);
        Refused.by("bn", x, "free", 0, 30, 10);
        Refused.by("bn", x, "free", 2, 20, 10);
        Refused.by("bn", x, "point", 2, true);
        FairwayChancery green = lying('s', 'g', 0, 0, 29, 19);
        Refused.by("un", green, "point", 0, true);
        Refused.by("un", green, "free", 0, 20, 10);
        x.pickUp(0);
        x.pickUp(1);
        x.nextHole();
        Refused.by("sn", x, "point", 0, true);
        Refused.by("sn", x, "free", 0, 20, 10);
    }

    private static void cellsForFree() {
        FairwayChancery x = lying('s', 'w', 12, 9, 13, 11, 'g', 13, 8, 13, 8, 'b', 11, 9, 11, 9);
        // The point is 11, 10, at a distance of 4 like 13, 8 and 13, 12, of which the first one is no ground.
        Check.same("20: x", x.point(0, true), 11);
        Check.same("20: y", x.point(0, false), 10);
        int[][] no = {{12, 10}, {11, 9}, {10, 9}, {10, 11}, {9, 10}, {11, 12}, {13, 12}, {13, 10}, {25, 10}};
        for (int[] c : no) {
            Refused.by("u", x, "free", 0, c[0], c[1]);
        }
        FairwayChancery up = lying('s', 'p', 13, 10, 13, 10);
        Check.same("20: y", up.point(0, false), 9);
        Refused.by("u", up, "free", 0, 14, 9);
        Refused.by("u", up, "free", 0, 13, 10);
        Check.same("21: as far as the point", up.free(0, 13, 9), 'p');
    }

    private static void cellsForWrongPlaces() {
        FairwayChancery x = lying('s', 'o', 14, 10, 14, 10);
        Refused.by("u", x, "wrongPlace", 0, 13, 10);
        Refused.by("u", x, "wrongPlace", 0, 14, 10);
        Refused.by("u", x, "wrongPlace", 0, 25, 10);
        Refused.by("u", x, "wrongPlace", 1, 13, 11);
        FairwayChancery cup = lying('s', 'o', 25, 10, 25, 10, 'o', 24, 10, 24, 10);
        Refused.by("u", cup, "wrongPlace", 0, 25, 10);
        Refused.by("u", cup, "wrongPlace", 0, 24, 10);
    }

    private static void secondWrongPlace() {
        FairwayChancery x = lying('s');
        x.wrongPlace(0, 20, 10);
        Refused.by("u", x, "wrongPlace", 0, 13, 12);
        Play.to(x, 0, 13, 10);
        Refused.by("u", x, "wrongPlace", 0, 13, 12);
        x.again(0);
        Refused.by("u", x, "wrongPlace", 0, 13, 12);
        Check.same("23: corrected", x.correct(0), 3);
        Check.no("22: not refused any more", x.wrongPlace(0, 13, 12));
        Refused.by("u", x, "wrongPlace", 0, 13, 13);
        Play.to(x, 0, 14, 12);
        Check.no("22: played from, and not serious", x.wrongPlace(0, 13, 13));
    }

    private static void nothingToCorrect() {
        FairwayChancery x = Play.shortHoles(2, 1);
        x.begin('s');
        Refused.by("u", x, "correct", 0);
        Play.to(x, 0, 7, 10);
        Refused.by("u", x, "correct", 0);
        x.wrongPlace(0, 11, 10);
        Refused.by("u", x, "correct", 0);
        Refused.by("bu", x, "correct", 1);
        Play.to(x, 0, 12, 10);
        x.correct(0);
        Refused.by("u", x, "correct", 0);
        x.wrongPlace(0, 10, 10);
        Play.to(x, 0, 12, 10);
        Refused.by("u", x, "correct", 0);
        x.wrongPlace(0, 12, 9);
        Play.to(x, 0, 12, 12);
        Refused.by("u", x, "correct", 0);
        x.pickUp(0);
        x.nextHole();
        Refused.by("u", x, "correct", 0);
        Play.to(x, 0, 7, 10);
        x.wrongPlace(0, 11, 10);
        Play.to(x, 0, 12, 10);
        x.pickUp(0);
        x.nextHole();
        Refused.by("s", x, "correct", 0);
        x.begin('s');
        Refused.by("u", x, "correct", 0);
    }

    private static void windToNoCell() {
        FairwayChancery x = lying('s', 'o', 14, 10, 14, 10);
        int[][] no = {{-1, 10}, {30, 10}, {13, -1}, {13, 20}, {14, 10}, {25, 10}, {Integer.MIN_VALUE, 10},
            {Integer.MAX_VALUE, 10}, {13, Integer.MIN_VALUE}, {13, Integer.MAX_VALUE}, {-1, -1}, {30, -1}, {-30, 11}};
        for (int[] c : no) {
            Refused.by("u", x, "move", 0, 'w', c[0], c[1]);
            Refused.by("au", x, "move", 0, 'q', c[0], c[1]);
            Refused.by("bu", x, "move", 2, 'w', c[0], c[1]);
            Check.same("24: for w alone", x.move(0, 'e', c[0], c[1]), 1);
            Check.same("24: for w alone", x.move(0, 'k', c[0], c[1]), 1);
        }
        Play.lies(x, 0, 13, 10, "24: put back");
    }

    private static void wrongBalls() {
        for (char format : new char[] {'s', 'm'}) {
            FairwayChancery x = lying(format);
            Refused.by("u", x, "wrongBall", 0, 0);
            Refused.by("u", x, "wrongBall", 1, 1);
            Refused.by("u", x, "wrongBall", 0, 1);
            Refused.by("u", x, "wrongBall", 1, 0);
            Refused.by("b", x, "wrongBall", 0, 2);
            Refused.by("b", x, "wrongBall", 2, 0);
            Play.to(x, 1, 13, 12);
            Check.same("25: both lie", x.wrongBall(1, 0), format == 's' ? 3 : 1);
        }
    }
}
