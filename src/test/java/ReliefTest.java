/** Promises 17 to 25: relief with a penalty and without one, wrong places, moved balls and wrong balls. */
public final class ReliefTest {
    public static void main(String[] args) {
        again();
        againRefused();
        onTheTeeAgain();
        line();
        lineRefused();
        aside();
        asideRefused();
        point();
        pointRefused();
        free();
        freeRefused();
        freeWithoutPoint();
        reliefToTheTee();
        wrongPlaces();
        wrongPlacesRefused();
        wrongPlaceForgotten();
        wrongPlaceInMatch();
        breaches();
        corrections();
        correctedWithSpot();
        moves();
        movesRefused();
        wrongBalls();
        wrongBallsRefused();
        Check.end();
    }

    /** Two players, the first one's ball at 13, 10 with 1 stroke; the cup is at 25, 10, the tee at 3, 10. */
    private static FairwayChancery lying(char format, String... areas) {
        FairwayChancery x = Play.flat(2);
        for (String area : areas) {
            String[] w = area.split(" ");
            x.area(0, w[0].charAt(0), Integer.parseInt(w[1]), Integer.parseInt(w[2]), Integer.parseInt(w[3]),
                    Integer.parseInt(w[4]));
        }
        x.begin(format);
        Play.to(x, 0, 13, 10);
        return x;
    }

    private static void again() {
        FairwayChancery x = lying('s');
        Check.same("17: from where it lies", x.again(0), 2);
        Play.lies(x, 0, 3, 10, "17: on the tee");
        Check.same("17: counted", x.strokes(0) * 10 + x.penalties(0), 11);
        Check.same("17: again and again", x.again(0), 3);
        x.suspend(true);
        Check.same("17: suspended", x.again(0), 4);
        x.suspend(false);
        Play.to(x, 0, 13, 9);
        Play.to(x, 0, 13, 0, 1, 0, 1);
        Play.to(x, 0, 13, 0, 1, 0, -1);
        Check.same("17: sought", x.again(0), 8);
        Play.lies(x, 0, 13, 1, "17: its spot");
        Play.to(x, 0, 13, 0, 1, 0, -1);
        x.search(0);
        Check.same("17: out", x.again(0), 10);
        Play.lies(x, 0, 13, 1, "17: its spot");
        Play.to(x, 0, 13, 0, 1, 0, -1);
        x.setSeed(Play.seedFor(1, 0, 0));
        x.provisional(0, 14, 4);
        Check.same("17: the provisional ball is of no meaning", x.again(0), 12);
        Play.lies(x, 0, 13, 1, "17: its spot");
        Play.to(x, 0, 13, 0, 1, 0, -1);
        Check.same("17: nor later", x.search(0), 'x');
    }

    private static void againRefused() {
        FairwayChancery x = Play.flat(2);
        Check.bounds("17: no such player", () -> x.again(2));
        Check.state("17: no round", () -> x.again(0));
        x.begin('s');
        Check.bounds("17: no such player", () -> x.again(-1));
        Check.unsupported("17: not begun", () -> x.again(0));
        Play.to(x, 0, 15, 10);
        Play.to(x, 0, 25, 10);
        Check.unsupported("17: holed", () -> x.again(0));
        Play.to(x, 1, 15, 10);
        x.pickUp(1);
        Check.unsupported("17: picked up", () -> x.again(1));
        x.nextHole();
        Check.state("17: over", () -> x.again(0));
    }

    private static void onTheTeeAgain() {
        FairwayChancery x = lying('s', "d 3 10 3 10");
        x.again(0);
        Check.same("17: it lies", x.state(0), 'l');
        Check.unsupported("18: on the tee", () -> x.line(0, 1));
        Check.unsupported("19: on the tee", () -> x.aside(0, 2, 10));
        Check.unsupported("22: on the tee", () -> x.wrongPlace(0, 10, 10));
        Check.unsupported("24: on the tee", () -> x.move(0, 'e', 0, 0));
        Play.to(x, 1, 13, 13);
        Check.unsupported("25: on the tee", () -> x.wrongBall(0, 1));
        Check.unsupported("25: on the tee", () -> x.wrongBall(1, 0));
        Check.unsupported("13: beyond the reach of the tee", () -> x.stroke(0, 15, 11));
        Check.same("13: the reach of the tee", Play.to(x, 0, 15, 10, 1, 1, 1), 'l');
        Play.lies(x, 0, 16, 11, "13: the spread of the tee");
        x.again(0);
        Play.lies(x, 0, 3, 10, "17: its spot is the tee");
    }

    private static void line() {
        FairwayChancery x = lying('s');
        Check.same("18: one step", x.line(0, 1), 2);
        Play.lies(x, 0, 12, 10, "18: away from the cup");
        Check.same("18: nine steps", x.line(0, 9), 3);
        Play.lies(x, 0, 3, 10, "18: the last one");
        FairwayChancery y = Play.flat(1);
        y.area(0, 'd', 6, 14, 6, 14);
        y.begin('s');
        Play.to(y, 0, 13, 13);
        Play.to(y, 0, 19, 12);
        Check.same("18: 6 and 2 by their divisor", y.line(0, 1), 3);
        Play.lies(y, 0, 16, 13, "18: 3 and 1");
        Check.same("18: 9 and 3 by their divisor", y.line(0, 2), 4);
        Play.lies(y, 0, 10, 15, "18: twice 3 and 1");
        Play.to(y, 0, 18, 15);
        Check.unsupported("18: not a cell", () -> y.line(0, 1));
        Check.same("18: the spot stays", y.again(0), 6);
        Play.lies(y, 0, 10, 15, "18: the spot");
        FairwayChancery up = Play.flat(1);
        up.begin('s');
        Play.to(up, 0, 15, 10);
        Play.to(up, 0, 22, 5);
        Play.to(up, 0, 25, 4);
        up.line(0, 2);
        Play.lies(up, 0, 25, 2, "18: just below the cup, to y 0");
    }

    private static void lineRefused() {
        FairwayChancery x = lying('s', "o 12 10 12 10", "y 11 10 11 10", "r 10 10 10 10", "d 9 10 9 10");
        Check.bounds("18: no such player", () -> x.line(2, 0));
        Check.argument("18: 0 times", () -> x.line(0, 0));
        Check.argument("18: 10 times", () -> x.line(0, 10));
        Check.argument("18: below 0", () -> x.line(0, -1));
        Check.unsupported("18: not begun", () -> x.line(1, 1));
        Check.unsupported("18: out of bounds", () -> x.line(0, 1));
        Check.unsupported("18: yellow", () -> x.line(0, 2));
        Check.unsupported("18: red", () -> x.line(0, 3));
        Check.same("18: nothing counted", x.penalties(0), 0);
        Check.same("18: deep grass", x.line(0, 4), 2);
        Play.lies(x, 0, 9, 10, "18: deep grass");
        Check.same("18: one more", x.line(0, 1), 3);
        Check.unsupported("18: not a cell", () -> x.line(0, 9));
        Play.to(x, 1, 0, 10, 1, -1, 0);
        Check.unsupported("18: sought", () -> x.line(1, 1));
        x.search(1);
        Check.unsupported("18: out", () -> x.line(1, 1));
        x.pickUp(0);
        Check.unsupported("18: picked up", () -> x.line(0, 1));
        x.pickUp(1);
        x.nextHole();
        Check.argument("18: the number ahead of over", () -> x.line(0, 10));
        Check.state("18: over", () -> x.line(0, 1));
        Check.state("18: no round", () -> Play.flat(1).line(0, 1));
    }

    private static void aside() {
        int[][] cells = {{13, 12}, {13, 8}, {12, 11}, {12, 9}, {11, 10}, {12, 10}, {13, 10}, {13, 9}};
        for (int[] c : cells) {
            FairwayChancery x = lying('s');
            Check.same("19: not nearer the cup", x.aside(0, c[0], c[1]), 2);
            Play.lies(x, 0, c[0], c[1], "19: aside");
            Check.same("19: one penalty", x.penalties(0), 1);
        }
        FairwayChancery red = lying('s', "r 13 10 13 10", "b 12 10 12 10", "d 12 11 12 11");
        Check.unsupported("19: red again", () -> red.aside(0, 13, 10));
        Check.same("19: from red to a bunker", red.aside(0, 12, 10), 2);
        Check.same("19: to deep grass", red.aside(0, 12, 11), 3);
        Check.same("19: deep grass, it lies", red.state(0), 'l');
        red.again(0);
        Play.lies(red, 0, 3, 10, "19: the spot stays");
        FairwayChancery near = Play.flat(1);
        near.begin('s');
        Play.to(near, 0, 15, 10);
        Play.to(near, 0, 24, 10);
        Check.unsupported("19: the cup", () -> near.aside(0, 25, 10));
        Check.same("19: behind the cup, as far", near.aside(0, 26, 10), 3);
    }

    private static void asideRefused() {
        FairwayChancery x = lying('s', "o 12 10 12 10", "y 11 10 11 10", "r 12 11 12 11");
        Check.bounds("19: no such player", () -> x.aside(2, 12, 9));
        Check.bounds("19: no such cell", () -> x.aside(0, -1, 9));
        Check.bounds("19: no such cell", () -> x.aside(0, 12, 20));
        Check.unsupported("19: nearer", () -> x.aside(0, 14, 10));
        Check.unsupported("19: nearer", () -> x.aside(0, 14, 11));
        Check.unsupported("19: a distance of 5", () -> x.aside(0, 12, 12));
        Check.unsupported("19: a distance of 9", () -> x.aside(0, 10, 10));
        Check.unsupported("19: out of bounds", () -> x.aside(0, 12, 10));
        Check.unsupported("19: yellow", () -> x.aside(0, 11, 10));
        Check.unsupported("19: red", () -> x.aside(0, 12, 11));
        Check.unsupported("19: not begun", () -> x.aside(1, 3, 10));
        Check.same("19: nothing counted", x.penalties(0), 0);
        FairwayChancery yellow = lying('s', "y 13 10 13 10");
        Check.unsupported("19: from yellow", () -> yellow.aside(0, 12, 10));
        Check.same("18: from yellow on the line", yellow.line(0, 1), 2);
        x.pickUp(0);
        x.pickUp(1);
        Check.unsupported("19: picked up", () -> x.aside(0, 12, 9));
        x.nextHole();
        Check.bounds("19: the cell ahead of over", () -> x.aside(0, 30, 9));
        Check.state("19: over", () -> x.aside(0, 12, 9));
        Check.state("19: no round", () -> Play.flat(1).aside(0, 12, 9));
    }

    private static void pointIs(FairwayChancery x, int dueX, int dueY, String what) {
        Check.same(what + ": x", x.point(0, true), dueX);
        Check.same(what + ": y", x.point(0, false), dueY);
        Check.yes("57: " + what, x.isSound());
    }

    private static void point() {
        pointIs(lying('s', "w 13 10 13 10"), 13, 9, "20: the least y");
        pointIs(lying('s', "p 13 9 13 10"), 12, 10, "20: a path");
        pointIs(lying('s', "w 13 9 13 11"), 12, 10, "20: not nearer the cup");
        pointIs(lying('s', "w 12 9 13 11"), 13, 8, "20: at a distance of 4, the least y");
        pointIs(lying('s', "w 12 9 13 11", "g 13 8 13 8"), 11, 10, "20: at a distance of 4, the ground alone");
        pointIs(lying('s', "w 11 8 13 12"), 13, 7, "20: at a distance of 9");
        pointIs(lying('s', "w 12 8 13 12", "b 11 10 11 10"), 11, 9, "20: at a distance of 5, not nearer the cup");
        pointIs(lying('s', "w 0 0 29 19", ". 29 0 29 0", ". 0 19 0 19"), 0, 19, "20: far off");
        FairwayChancery near = Play.flat(1);
        near.area(0, 'w', 23, 9, 24, 11);
        near.begin('s');
        Play.to(near, 0, 15, 10);
        Play.to(near, 0, 24, 10);
        pointIs(near, 25, 9, "20: beside the cup, not the cup");
        corner(28, 19, 0, 0, "20: from corner to corner");
        corner(0, 19, 29, 0, "20: from corner to corner");
        corner(0, 0, 29, 19, "20: from corner to corner");
        FairwayChancery tie = Play.flat(1);
        tie.area(0, 'w', 25, 13, 25, 13);
        tie.area(0, 'b', 25, 14, 25, 14);
        tie.begin('s');
        Play.to(tie, 0, 15, 10);
        Play.to(tie, 0, 24, 12);
        Play.to(tie, 0, 25, 13);
        pointIs(tie, 24, 13, "20: of the same y the least x");
        tie.suspend(true);
        pointIs(tie, 24, 13, "20: suspended");
        Check.same("20: nothing counted", tie.penalties(0), 0);
    }

    /** A hole without ground but in one corner, the ball beside another one, and the cup between them. */
    private static void corner(int lieX, int lieY, int pointX, int pointY, String what) {
        FairwayChancery x = new FairwayChancery();
        x.hole(4, 1, lieX > 14 ? 15 : 14, lieY == 0 ? 9 : 10, 14, lieY == 0 ? 5 : 14);
        x.area(0, 'w', 0, 0, 29, 19);
        x.area(0, '.', pointX, pointY, pointX, pointY);
        x.player();
        x.begin('s');
        for (int i = 0; i < 2; i++) {
            int dx = Math.max(-8, Math.min(8, lieX - x.lie(0, true)));
            int dy = Math.max(-6, Math.min(6, lieY - x.lie(0, false)));
            Play.to(x, 0, x.lie(0, true) + dx, x.lie(0, false) + dy);
        }
        Play.lies(x, 0, lieX, lieY, what);
        if (lieX == 28) {
            Play.to(x, 0, 29, 19);
        }
        Check.same(what + ": x", x.point(0, true), pointX);
        Check.same(what + ": y", x.point(0, false), pointY);
        Check.yes("57: " + what, x.isSound());
    }

    private static void pointRefused() {
        FairwayChancery none = lying('s', "p 0 0 29 19", ". 20 6 29 14");
        Check.missing("20: all ground is nearer", () -> none.point(0, true));
        Check.missing("20: all ground is nearer", () -> none.point(0, false));
        Check.yes("57: no point", none.isSound());
        FairwayChancery x = lying('s', "y 13 10 13 10", "w 13 12 13 13");
        Check.bounds("20: no such player", () -> x.point(2, true));
        Check.unsupported("20: neither repair nor path", () -> x.point(0, true));
        Check.unsupported("20: not begun", () -> x.point(1, true));
        Play.to(x, 0, 13, 12, 2, 0, 0);
        x.wrongPlace(0, 13, 13);
        Check.unsupported("20: in a wrong place", () -> x.point(0, true));
        FairwayChancery tee = lying('s', "w 3 10 3 10");
        tee.again(0);
        Check.unsupported("20: on the tee", () -> tee.point(0, true));
        Check.unsupported("21: on the tee", () -> tee.free(0, 3, 9));
        tee.pickUp(0);
        tee.pickUp(1);
        Check.unsupported("20: picked up", () -> tee.point(0, true));
        tee.nextHole();
        Check.state("20: over", () -> tee.point(0, true));
        Check.state("20: no round", () -> Play.flat(1).point(0, true));
        FairwayChancery back = lying('s', "w 3 10 3 10");
        Play.to(back, 0, 6, 10);
        Play.to(back, 0, 3, 10);
        Check.same("20: the tee by a stroke is not the tee", back.point(0, false), 9);
    }

    private static void free() {
        FairwayChancery x = lying('s', "w 12 9 13 11", "g 13 8 13 8");
        Check.same("21: repair", x.free(0, 11, 10), 'w');
        Play.lies(x, 0, 11, 10, "21: at the point");
        Check.same("21: without a penalty", x.penalties(0), 0);
        Check.same("21: without a stroke", x.strokes(0), 1);
        x.again(0);
        Play.lies(x, 0, 3, 10, "21: the spot stays");
        int[][] cells = {{11, 9}, {11, 11}, {10, 10}};
        for (int[] c : cells) {
            FairwayChancery y = lying('s', "p 12 9 13 11", "g 13 8 13 8");
            y.suspend(true);
            Check.same("21: beside the point, suspended", y.free(0, c[0], c[1]), 'p');
            Play.lies(y, 0, c[0], c[1], "21: beside the point");
        }
    }

    private static void freeRefused() {
        FairwayChancery x = lying('s', "w 12 9 13 11", "g 13 8 13 8", "b 11 9 11 9");
        Check.bounds("21: no such player", () -> x.free(2, 11, 10));
        Check.bounds("21: no such cell", () -> x.free(0, 11, -1));
        Check.bounds("21: no such cell", () -> x.free(0, 30, 10));
        Check.unsupported("21: not the ground", () -> x.free(0, 11, 9));
        Check.unsupported("21: where it lies", () -> x.free(0, 13, 10));
        Check.unsupported("21: a distance of 2", () -> x.free(0, 10, 9));
        Check.unsupported("21: a distance of 4", () -> x.free(0, 9, 10));
        Check.unsupported("21: not begun", () -> x.free(1, 11, 10));
        Play.lies(x, 0, 13, 10, "21: nothing changed");
        FairwayChancery up = lying('s', "w 13 10 13 10");
        Check.unsupported("21: nearer the cup than the point", () -> up.free(0, 14, 9));
        Check.same("21: as far as the point", up.free(0, 13, 9), 'w');
        Check.unsupported("21: on the ground", () -> up.free(0, 13, 8));
        FairwayChancery cup = Play.flat(1);
        cup.area(0, 'w', 24, 10, 24, 10);
        cup.begin('s');
        Play.to(cup, 0, 15, 10);
        Play.to(cup, 0, 24, 10);
        Check.unsupported("21: the cup", () -> cup.free(0, 25, 10));
        FairwayChancery wrong = lying('s', "w 13 10 13 12");
        wrong.wrongPlace(0, 13, 12);
        Check.unsupported("21: in a wrong place", () -> wrong.free(0, 13, 9));
        x.pickUp(0);
        x.pickUp(1);
        x.nextHole();
        Check.bounds("21: the cell ahead of over", () -> x.free(0, 30, 10));
        Check.state("21: over", () -> x.free(0, 11, 10));
        Check.state("21: no round", () -> Play.flat(1).free(0, 11, 10));
    }

    /** What tells of a cell alone that it is not allowed is thrown ahead of there being no point. */
    private static void freeWithoutPoint() {
        for (String under : new String[] {"w 0 0 29 19", "p 0 0 29 19"}) {
            FairwayChancery x = lying('s', under, ". 20 6 29 14", "g 22 8 22 8", "b 23 8 23 8", "d 24 8 24 8",
                    "y 22 9 22 9", "r 23 9 23 9", "w 24 9 24 9", "p 22 10 22 10", "o 23 10 23 10");
            Check.missing("21: ground, and no point", () -> x.free(0, 20, 10));
            Check.missing("21: ground beside the cup, and no point", () -> x.free(0, 24, 10));
            int[][] other = {{22, 8}, {23, 8}, {24, 8}, {22, 9}, {23, 9}, {24, 9}, {22, 10}, {23, 10}};
            for (int[] c : other) {
                Check.unsupported("21: no ground at " + c[0] + ", " + c[1] + ", ahead of no point",
                        () -> x.free(0, c[0], c[1]));
            }
            Check.unsupported("21: the cup, though ground, ahead of no point", () -> x.free(0, 25, 10));
            Check.unsupported("21: where it lies, ahead of no point", () -> x.free(0, 13, 10));
            Check.bounds("21: no such cell, ahead of no point", () -> x.free(0, 29, 20));
            Check.unsupported("21: not begun, ahead of no point", () -> x.free(1, 20, 10));
            Play.lies(x, 0, 13, 10, "21: nothing changed without a point");
        }
        FairwayChancery all = lying('m', "w 0 0 29 19");
        Check.unsupported("21: the cup, and not ground", () -> all.free(0, 25, 10));
        Check.unsupported("21: not ground", () -> all.free(0, 0, 0));
        FairwayChancery rough = lying('s', "g 0 0 29 19", ". 20 6 29 14");
        Check.unsupported("21: on a green, ahead of no point", () -> rough.free(0, 20, 10));
    }

    /** A ball that relief puts back to the tee is on it; one that a stroke or the wind brings there is not. */
    private static void reliefToTheTee() {
        FairwayChancery aside = Play.flat(1);
        aside.begin('s');
        Play.to(aside, 0, 5, 10);
        aside.aside(0, 3, 10);
        Check.unsupported("19: on the tee then", () -> aside.aside(0, 2, 10));
        Check.same("13: the reach of the tee", Play.to(aside, 0, 15, 10), 'l');
        FairwayChancery line = Play.flat(1);
        line.begin('s');
        Play.to(line, 0, 5, 10);
        line.line(0, 2);
        Check.unsupported("18: on the tee then", () -> line.line(0, 1));
        FairwayChancery free = Play.flat(1);
        free.area(0, 'w', 4, 9, 5, 11);
        free.area(0, 'g', 5, 8, 5, 8);
        free.begin('s');
        Play.to(free, 0, 5, 10);
        free.free(0, 3, 10);
        Check.unsupported("22: on the tee then", () -> free.wrongPlace(0, 10, 10));
        FairwayChancery wind = Play.flat(1);
        wind.begin('s');
        Play.to(wind, 0, 5, 10);
        wind.move(0, 'w', 3, 10);
        Check.same("24: not by the wind", wind.move(0, 'p', 0, 0), 2);
        Check.unsupported("13: nor its reach", () -> wind.stroke(0, 14, 10));
        wind.wrongPlace(0, 5, 12);
        Play.to(wind, 0, 6, 10);
        wind.wrongPlace(0, 3, 10);
        Check.unsupported("13: nor in a wrong place", () -> wind.stroke(0, 14, 10));
    }

    private static void wrongPlaces() {
        FairwayChancery x = lying('s', "r 13 13 13 13");
        Check.no("22: no breach", x.wrongPlace(0, 13, 12));
        Play.lies(x, 0, 13, 12, "22: it lies there");
        Check.same("22: no penalty yet", x.penalties(0) + x.strokes(0), 1);
        Check.unsupported("18: no relief", () -> x.line(0, 1));
        Check.unsupported("19: no relief", () -> x.aside(0, 12, 12));
        Check.unsupported("24: not moved", () -> x.move(0, 'e', 0, 0));
        Check.unsupported("22: a second one", () -> x.wrongPlace(0, 13, 14));
        Play.to(x, 1, 13, 15);
        Check.unsupported("25: no wrong ball", () -> x.wrongBall(0, 1));
        Check.unsupported("25: no wrong ball", () -> x.wrongBall(1, 0));
        Check.unsupported("13: its lie", () -> x.stroke(0, 13, 12));
        Check.same("13: 2 penalties", Play.to(x, 0, 20, 12), 'l');
        Check.same("13: 2 penalties", x.strokes(0) * 10 + x.penalties(0), 22);
        Play.to(x, 0, 13, 12);
        Check.same("13: once", x.penalties(0), 2);
        Check.no("22: another one", x.wrongPlace(0, 13, 13));
        Check.unsupported("13: the reach of the wrong place", () -> x.stroke(0, 18, 13));
        Play.to(x, 0, 16, 13, 2, 2, 2);
        Check.same("13: 2 more", x.penalties(0), 4);
        Play.lies(x, 0, 18, 15, "13: the spread of the wrong place");
        x.again(0);
        Play.lies(x, 0, 13, 13, "17: the wrong place is the spot");
        Check.same("18: no wrong place any more", x.line(0, 1), 10);
    }

    private static void wrongPlacesRefused() {
        FairwayChancery x = lying('s', "o 13 13 13 13", "d 13 14 13 14");
        Check.bounds("22: no such player", () -> x.wrongPlace(2, 13, 12));
        Check.bounds("22: no such cell", () -> x.wrongPlace(0, 30, 12));
        Check.unsupported("22: not begun", () -> x.wrongPlace(1, 13, 12));
        Check.unsupported("22: this cell", () -> x.wrongPlace(0, 13, 10));
        Check.unsupported("22: out of bounds", () -> x.wrongPlace(0, 13, 13));
        Check.unsupported("22: the cup", () -> x.wrongPlace(0, 25, 10));
        x.suspend(true);
        Check.no("22: deep grass, suspended", x.wrongPlace(0, 13, 14));
        Play.lies(x, 0, 13, 14, "22: deep grass");
        x.pickUp(0);
        Check.unsupported("22: picked up", () -> x.wrongPlace(0, 13, 12));
        x.pickUp(1);
        x.nextHole();
        Check.state("22: over", () -> x.wrongPlace(0, 13, 12));
        Check.no("35: no breach that was not played", x.isOut(0));
        Check.state("22: no round", () -> Play.flat(1).wrongPlace(0, 13, 12));
    }

    private static void wrongPlaceForgotten() {
        FairwayChancery x = lying('s');
        Check.yes("22: a breach", x.wrongPlace(0, 24, 10));
        Check.same("17: again", x.again(0), 2);
        Play.lies(x, 0, 3, 10, "17: its spot");
        Play.to(x, 0, 13, 10);
        Check.same("17: the wrong place is forgotten", x.penalties(0), 1);
        Check.unsupported("23: nothing to be corrected", () -> x.correct(0));
        Check.yes("22: not refused", x.wrongPlace(0, 20, 10));
    }

    private static void wrongPlaceInMatch() {
        FairwayChancery x = lying('m');
        Play.to(x, 1, 10, 10);
        Check.yes("22: in a match too", x.wrongPlace(0, 20, 10));
        x.setSeed(5);
        Check.unsupported("13: beyond the reach", () -> x.stroke(0, 29, 15));
        Check.unsupported("13: its lie", () -> x.stroke(0, 20, 10));
        Check.same("13: still there", x.state(0), 'l');
        Check.same("13: picked up", x.stroke(0, 25, 10), 'u');
        Check.same("13: nothing is drawn", x.setSeed(5), 5);
        Check.same("13: nothing is counted", x.strokes(0) * 10 + x.penalties(0), 10);
        Check.unsupported("28: nor to be cancelled", () -> x.cancel(0));
        Check.unsupported("23: nor to be corrected", () -> x.correct(0));
        x.pickUp(1);
        x.nextHole();
        Check.no("35: nor out", x.isOut(0));
    }

    private static void breaches() {
        FairwayChancery x = lying('s');
        // The right cell is at a distance of 144 from the cup, a quarter of it is 36.
        Check.no("22: 36 is no breach", x.wrongPlace(0, 19, 10));
        x.again(0);
        Play.to(x, 0, 13, 10);
        Check.yes("22: 29 is one", x.wrongPlace(0, 20, 12));
        Play.to(x, 0, 25, 13);
        Check.unsupported("22: refused till it is corrected", () -> x.wrongPlace(0, 20, 13));
        Play.to(x, 0, 25, 10);
        x.pickUp(1);
        Check.no("35: not yet", x.isOut(0));
        x.nextHole();
        Check.yes("35: as the round ends", x.isOut(0));
        Check.same("36: the score is told all the same", x.score(0, 0), 7);
        Check.unsupported("40: cannot sign", () -> x.sign(0));
        Check.state("23: too late", () -> x.correct(0));
        FairwayChancery y = Play.shortHoles(2, 1);
        y.begin('s');
        Play.to(y, 0, 8, 10);
        Check.yes("22: a breach", y.wrongPlace(0, 12, 10));
        Play.to(y, 0, 13, 12);
        y.pickUp(0);
        y.nextHole();
        Check.yes("35: as the next hole is begun", y.isOut(0));
        Check.unsupported("23: not on this hole", () -> y.correct(0));
        Play.to(y, 0, 8, 10);
        Check.yes("22: not refused on the next hole", y.wrongPlace(0, 12, 10));
        FairwayChancery z = lying('s');
        z.wrongPlace(0, 13, 12);
        Play.to(z, 0, 15, 12);
        Check.unsupported("23: not serious", () -> z.correct(0));
        z.pickUp(0);
        z.pickUp(1);
        z.nextHole();
        Check.no("35: not serious", z.isOut(0));
    }

    private static void corrections() {
        FairwayChancery x = Play.shortHoles(2, 2);
        Check.bounds("23: no such player", () -> x.correct(2));
        Check.state("23: no round", () -> x.correct(0));
        x.begin('s');
        Check.unsupported("23: none", () -> x.correct(0));
        Play.to(x, 0, 8, 10);
        x.move(0, 'p', 0, 0);
        x.wrongPlace(0, 12, 10);
        Check.unsupported("23: not played yet", () -> x.correct(0));
        Play.to(x, 0, 13, 10);
        Check.same("13: holed", x.state(0), 'h');
        x.pickUp(1);
        x.suspend(true);
        Check.same("23: whatever has become of it", x.correct(0), 4);
        Play.lies(x, 0, 8, 10, "23: where it lay rightly");
        Check.same("23: that stroke too does not count", x.strokes(0) * 10 + x.penalties(0), 13);
        Check.unsupported("30: not done", () -> x.nextHole());
        Check.unsupported("23: once", () -> x.correct(0));
        x.suspend(false);
        Check.yes("22: not refused any more", x.wrongPlace(0, 12, 10));
        Play.to(x, 0, 10, 10);
        Play.to(x, 0, 8, 12);
        x.again(0);
        x.move(0, 'p', 0, 0);
        Check.same("23: penalties since then do not count", x.correct(0), 6);
        Play.lies(x, 0, 8, 10, "23: where it lay rightly");
        x.pickUp(0);
        x.nextHole();
        Check.no("35: corrected in time", x.isOut(0));
    }

    private static void correctedWithSpot() {
        FairwayChancery x = Play.shortHoles(1, 1);
        x.begin('s');
        Play.to(x, 0, 6, 12);
        Play.to(x, 0, 8, 10);
        x.wrongPlace(0, 12, 10);
        Play.to(x, 0, 13, 19, 1, 0, 1);
        Check.same("13: sought", x.state(0), 's');
        x.setSeed(Play.seedFor(1, 0, 0));
        x.provisional(0, 12, 12);
        Check.same("23: sought, with a provisional ball", x.correct(0), 4);
        Play.lies(x, 0, 8, 10, "23: where it lay rightly");
        Check.same("17: the spot of then", x.again(0), 5);
        Play.lies(x, 0, 6, 12, "23: the spot of then");
        Play.to(x, 0, 0, 12, 1, -1, 0);
        Check.same("16: no provisional ball any more", x.search(0), 'x');
        FairwayChancery lost = Play.shortHoles(1, 1);
        lost.begin('s');
        Play.to(lost, 0, 8, 10);
        lost.wrongPlace(0, 12, 10);
        Play.to(lost, 0, 13, 19, 1, 0, 1);
        lost.setSeed(Play.seedFor(1, 0, 0));
        lost.provisional(0, 12, 12);
        lost.correct(0);
        Play.to(lost, 0, 8, 0, 1, 0, -1);
        Check.same("16: nor for the next search", lost.search(0), 'x');
        Check.same("16: nor does one count", lost.strokes(0) * 10 + lost.penalties(0), 22);
        FairwayChancery tee = new FairwayChancery();
        tee.hole(4, 1, 13, 10, 11, 10);
        tee.player();
        tee.begin('s');
        Play.to(tee, 0, 3, 10);
        Check.yes("22: in the cell of the tee", tee.wrongPlace(0, 11, 10));
        Play.to(tee, 0, 12, 12);
        tee.again(0);
        Check.unsupported("18: on the tee", () -> tee.line(0, 1));
        Check.same("23: off the tee again", tee.correct(0), 3);
        Check.same("18: off the tee again", tee.line(0, 1), 4);
        FairwayChancery y = Play.shortHoles(1, 1);
        y.begin('s');
        Play.to(y, 0, 8, 10);
        y.wrongPlace(0, 12, 10);
        Play.to(y, 0, 12, 12);
        y.pickUp(0);
        Check.same("23: picked up", y.correct(0), 3);
        y.again(0);
        Check.same("13: the spot of then was the tee", Play.to(y, 0, 15, 10), 'l');
    }

    private static void moves() {
        FairwayChancery x = lying('s', "g 13 10 14 10");
        Check.same("24: by somebody else", x.move(0, 'e', -1, -1), 1);
        Check.same("24: by what is not known", x.move(0, 'k', 99, 99), 1);
        Check.same("24: by the player, on the green", x.move(0, 'p', 0, 0), 1);
        Play.lies(x, 0, 13, 10, "24: put back");
        x.edition('o');
        Check.same("24: on the green by the old edition", x.move(0, 'p', 0, 0), 2);
        Check.same("24: others as in the new one", x.move(0, 'e', 0, 0), 2);
        x.edition('n');
        Check.same("24: by the wind", x.move(0, 'w', 13, 12), 2);
        Play.lies(x, 0, 13, 12, "24: where it came to");
        Check.same("24: by the player, off the green", x.move(0, 'p', 0, 0), 3);
        x.edition('o');
        x.suspend(true);
        Check.same("24: in the old edition too, suspended", x.move(0, 'p', 0, 0), 4);
        Check.same("24: no strokes", x.strokes(0) * 10 + x.penalties(0), 13);
        Check.same("24: the corner", x.move(0, 'w', 29, 19), 4);
        Check.same("24: where it lies", x.move(0, 'w', 29, 19), 4);
        x.again(0);
        Play.lies(x, 0, 3, 10, "24: the spot stays");
    }

    private static void movesRefused() {
        FairwayChancery x = lying('s', "o 13 12 13 12", "d 13 13 13 13");
        Check.bounds("24: no such player", () -> x.move(2, 'q', 0, 0));
        for (char by : new char[] {'q', 'P', 0, (char) 65535}) {
            Check.argument("24: no such cause", () -> x.move(0, by, 0, 0));
        }
        int[][] wrong = {{-1, 10}, {30, 10}, {13, -1}, {13, 20}, {13, 12}, {25, 10}, {Integer.MAX_VALUE, 0}};
        for (int[] w : wrong) {
            Check.unsupported("24: the cell is not allowed", () -> x.move(0, 'w', w[0], w[1]));
        }
        Check.unsupported("24: not begun", () -> x.move(1, 'e', 0, 0));
        Play.lies(x, 0, 13, 10, "24: nothing changed");
        Check.same("24: deep grass, it lies", x.move(0, 'w', 13, 13), 1);
        Play.lies(x, 0, 13, 13, "24: deep grass");
        x.pickUp(0);
        x.pickUp(1);
        Check.unsupported("24: picked up", () -> x.move(0, 'e', 0, 0));
        x.nextHole();
        Check.argument("24: the cause ahead of over", () -> x.move(0, 'q', 0, 0));
        Check.state("24: over", () -> x.move(0, 'e', 0, 0));
        Check.state("24: no round", () -> Play.flat(1).move(0, 'e', 0, 0));
    }

    private static void wrongBalls() {
        FairwayChancery x = lying('s');
        Play.to(x, 1, 13, 12);
        x.suspend(true);
        Check.same("25: 2 penalties, suspended", x.wrongBall(0, 1), 3);
        Play.lies(x, 0, 13, 10, "25: it lies as it lay");
        Play.lies(x, 1, 13, 12, "25: it lies as it lay");
        Check.same("25: nothing for the other one", x.strokes(1) * 10 + x.penalties(1), 10);
        Check.same("25: 2 more", x.wrongBall(0, 1), 5);
        Check.same("25: no strokes", x.strokes(0) * 10 + x.penalties(0), 14);
        FairwayChancery y = lying('m');
        Play.to(y, 1, 13, 12);
        Check.same("25: in a match, the score so far", y.wrongBall(1, 0), 1);
        Check.same("25: picked up instead", y.state(1), 'u');
        Check.same("25: no penalties", y.penalties(1), 0);
        Play.lies(y, 0, 13, 10, "25: it lies as it lay");
        Check.unsupported("25: it does not lie", () -> y.wrongBall(0, 1));
    }

    private static void wrongBallsRefused() {
        FairwayChancery x = lying('s');
        Check.bounds("25: no such player", () -> x.wrongBall(2, 0));
        Check.bounds("25: no such other player", () -> x.wrongBall(0, 2));
        Check.bounds("25: no such other player", () -> x.wrongBall(0, -1));
        Check.unsupported("25: both are the same", () -> x.wrongBall(0, 0));
        Check.unsupported("25: the other one has not begun", () -> x.wrongBall(0, 1));
        Check.unsupported("25: the player has not begun", () -> x.wrongBall(1, 0));
        Play.to(x, 1, 0, 10, 1, -1, 0);
        Check.unsupported("25: the other one is sought", () -> x.wrongBall(0, 1));
        Check.same("25: nothing counted", x.penalties(0), 0);
        x.pickUp(0);
        x.pickUp(1);
        x.nextHole();
        Check.bounds("25: the player ahead of over", () -> x.wrongBall(0, 2));
        Check.state("25: over", () -> x.wrongBall(0, 1));
        Check.state("25: no round", () -> Play.flat(2).wrongBall(0, 1));
    }
}
