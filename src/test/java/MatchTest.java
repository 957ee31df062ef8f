/** Promises 28, 29, 37 and 38: a match, strokes that are cancelled, and what is conceded. */
public final class MatchTest {
    public static void main(String[] args) {
        cancels();
        cancelsAllOfTheBall();
        cancelsOffTheTee();
        cancelsSoughtAndHoled();
        cancelRefused();
        whatEndsCancelling();
        concedesStrokes();
        concedesHoles();
        concedesTheMatch();
        concedeRefused();
        countsHoles();
        countsWithHandicaps();
        handicapsOfBoth();
        overBeforeTheEnd();
        noMatch();
        Check.end();
    }

    private static FairwayChancery match(int holes) {
        FairwayChancery x = Play.shortHoles(holes, 2);
        x.begin('m');
        return x;
    }

    private static void cancels() {
        FairwayChancery x = match(1);
        Play.to(x, 1, 8, 10);
        int seed = x.setSeed(3);
        x.setSeed(seed);
        Check.yes("28: it had not begun", x.cancel(1));
        Check.same("28: not begun again", x.state(1), 'n');
        Check.same("28: the tee", x.lie(1, true), 3);
        Check.same("28: no stroke", x.strokes(1), 0);
        Check.same("28: not the seed", x.setSeed(1), seed);
        Check.unsupported("28: once", () -> x.cancel(1));
        Check.unsupported("17: no stroke was played", () -> x.again(1));
        Check.same("13: the reach of the tee", Play.to(x, 1, 15, 10), 'l');
        Check.yes("28: another one", x.cancel(1));
        Play.to(x, 0, 8, 10);
        Check.unsupported("28: in order", () -> x.cancel(0));
        Play.to(x, 1, 9, 10);
        Check.unsupported("28: in order", () -> x.cancel(1));
        Play.to(x, 1, 11, 10);
        Check.unsupported("28: by the other one", () -> x.cancel(0));
        Check.no("28: it had begun", x.cancel(1));
        Play.lies(x, 1, 9, 10, "28: as ahead of it");
        Check.same("28: as ahead of it", x.strokes(1), 1);
        Check.same("28: its spot as ahead of it", x.again(1), 2);
        Play.lies(x, 1, 3, 10, "28: its spot as ahead of it");
    }

    private static void cancelsAllOfTheBall() {
        FairwayChancery x = Play.flat(2);
        x.begin('m');
        Play.to(x, 0, 5, 10);
        Play.to(x, 1, 12, 10);
        x.again(1);
        Play.to(x, 0, 6, 10);
        Check.no("28: it had begun", x.cancel(0));
        Play.lies(x, 0, 5, 10, "28: as ahead of it");
        Play.to(x, 0, 7, 10);
        Play.to(x, 1, 15, 10);
        x.again(1);
        x.suspend(true);
        x.suspend(false);
        Check.unsupported("28: something else was told", () -> x.cancel(1));
        Play.to(x, 1, 14, 11);
        Check.unsupported("28: in order", () -> x.cancel(1));
        Play.to(x, 1, 16, 10);
        Check.no("28: out of order", x.cancel(1));
        Play.to(x, 1, 23, 10);
        x.suspend(true);
        Check.no("28: suspending aside, while suspended", x.cancel(1));
        Play.lies(x, 1, 14, 11, "28: as ahead of it");
        Check.same("28: its penalties", x.penalties(1), 2);
        Check.same("28: its strokes", x.strokes(1), 3);
        FairwayChancery y = Play.flat(2);
        y.begin('m');
        Play.to(y, 1, 12, 10);
        y.again(1);
        Play.to(y, 1, 13, 10);
        Check.no("28: it lay on the tee", y.cancel(1));
        Check.unsupported("28: on the tee again", () -> y.line(1, 1));
        Check.same("28: on the tee again", Play.to(y, 1, 15, 10), 'l');
    }

    /** A ball that lay off the tee, played there from the tee, lies off it again. */
    private static void cancelsOffTheTee() {
        FairwayChancery x = Play.flat(2);
        x.begin('m');
        Play.to(x, 0, 8, 10);
        Play.to(x, 1, 12, 10);
        Play.to(x, 1, 15, 10);
        Check.no("28: out of order", x.cancel(1));
        Check.unsupported("13: beyond the reach of its lie", () -> x.stroke(1, 23, 10));
        Check.same("18: off the tee", x.line(1, 1), 2);
        Play.lies(x, 1, 11, 10, "18: off the tee");
        Check.unsupported("23: no breach came of it", () -> x.correct(1));
        Check.no("22: nor is a wrong place refused", x.wrongPlace(1, 11, 11));
        x.pickUp(0);
        x.pickUp(1);
        x.nextHole();
        Check.no("35: nor is anybody out", x.isOut(1));
        FairwayChancery y = match(1);
        Play.to(y, 1, 8, 10);
        y.cancel(1);
        Check.unsupported("23: no breach came of it", () -> y.correct(1));
        Play.holeOut(y, 1, 1);
        Check.no("35: nor is anybody out", y.isOut(1));
    }

    private static void cancelsSoughtAndHoled() {
        FairwayChancery x = match(1);
        Play.to(x, 1, 0, 10, 1, -1, 0);
        Check.same("28: sought", x.state(1), 's');
        Check.yes("28: sought", x.cancel(1));
        Check.unsupported("16: not sought any more", () -> x.search(1));
        Play.to(x, 1, 13, 10);
        Check.same("28: holed", x.state(1), 'h');
        Check.same("12: the other one", x.away(), 0);
        Check.yes("28: holed", x.cancel(1));
        Check.unsupported("30: not done any more", () -> x.nextHole());
        Check.same("28: the ball goes on", x.pickUp(1), 1);
    }

    private static void cancelRefused() {
        FairwayChancery x = match(1);
        Check.bounds("28: no such player", () -> x.cancel(2));
        Check.bounds("28: no such player", () -> x.cancel(-1));
        Check.unsupported("28: nothing was told", () -> x.cancel(0));
        Check.unsupported("28: nothing was told", () -> x.cancel(1));
        x.pickUp(0);
        x.pickUp(1);
        x.nextHole();
        Check.state("28: over", () -> x.cancel(1));
        Check.bounds("28: the player ahead of over", () -> x.cancel(2));
        Check.state("28: no round", () -> Play.flat(2).cancel(0));
        FairwayChancery y = Play.shortHoles(1, 2);
        y.begin('s');
        Play.to(y, 1, 8, 10);
        Check.unsupported("28: no match", () -> y.cancel(1));
    }

    /** The second player's ball lies after a stroke out of order; then something is told. */
    private interface Told {
        void tell(FairwayChancery x);
    }

    private static void ends(String what, boolean isEnding, Told told) {
        FairwayChancery x = Play.flat(2);
        x.area(0, 'w', 12, 9, 13, 11);
        x.area(0, 'g', 13, 8, 13, 8);
        x.area(0, 'd', 9, 9, 9, 9);
        x.begin('m');
        Play.to(x, 0, 8, 10);
        Play.to(x, 1, 13, 10);
        Play.to(x, 1, 13, 11);
        Check.same("28: out of order", x.away(), 0);
        told.tell(x);
        if (isEnding) {
            Check.unsupported("28: " + what, () -> x.cancel(1));
        } else {
            Check.no("28: " + what, x.cancel(1));
        }
    }

    private static void whatEndsCancelling() {
        ends("nothing", false, x -> { });
        ends("suspending", false, x -> x.suspend(true));
        ends("a seed", false, x -> x.setSeed(4));
        ends("an edition", false, x -> x.edition('o'));
        ends("the conditions", false, x -> x.conditions(1));
        ends("questions", false, x -> {
            x.odds(1, 14, 10, '.');
            x.point(1, true);
            x.away();
            x.up();
        });
        ends("the match conceded, by which nothing else changes", false, x -> x.concede(0, 'm'));
        ends("what is refused", false, x -> Check.unsupported("13: refused", () -> x.stroke(1, 13, 11)));
        ends("a stroke in order", true, x -> Play.to(x, 0, 9, 10));
        ends("again by the other one", true, x -> x.again(0));
        ends("again", true, x -> x.again(1));
        ends("the line", true, x -> x.line(0, 1));
        ends("aside", true, x -> x.aside(0, 8, 11));
        ends("free", true, x -> x.free(1, 13, 12));
        ends("a wrong place", true, x -> x.wrongPlace(0, 9, 10));
        ends("a wrong place that is played", true, x -> {
            x.wrongPlace(0, 9, 10);
            x.stroke(0, 12, 10);
        });
        ends("moved", true, x -> x.move(0, 'e', 0, 0));
        ends("a wrong ball", true, x -> x.wrongBall(0, 1));
        ends("picked up", true, x -> x.pickUp(0));
        ends("a stroke conceded", true, x -> x.concede(1, 's'));
        ends("the hole conceded", true, x -> x.concede(0, 'h'));
        ends("a search", true, x -> {
            Play.to(x, 0, 9, 9);
            Play.to(x, 1, 13, 12);
            x.search(0);
        });
        ends("a provisional ball", true, x -> {
            Play.to(x, 0, 9, 9);
            Play.to(x, 1, 13, 12);
            x.provisional(0, 9, 10);
        });
        FairwayChancery x = match(2);
        Play.to(x, 0, 8, 10);
        Play.to(x, 1, 9, 10);
        x.pickUp(0);
        x.again(1);
        x.pickUp(1);
        x.nextHole();
        Check.unsupported("28: the next hole", () -> x.cancel(1));
        Play.holeWith(x, 1, 1);
        x.pickUp(0);
        x.nextHole();
        x.begin('m');
        Check.unsupported("28: the next round", () -> x.cancel(1));
    }

    private static void concedesStrokes() {
        FairwayChancery x = match(1);
        Play.to(x, 0, 8, 10);
        Play.to(x, 1, 8, 12);
        x.suspend(true);
        Check.same("29: nobody is up yet", x.concede(1, 's'), 0);
        Check.same("29: holed", x.state(0), 'h');
        Check.same("29: 1 stroke more", x.strokes(0) * 10 + x.penalties(0), 20);
        Check.unsupported("29: it does not lie any more", () -> x.concede(1, 's'));
        x.wrongPlace(1, 12, 12);
        Check.same("29: in a wrong place", x.concede(0, 's'), 0);
        Check.same("29: 1 stroke more", x.strokes(1) * 10 + x.penalties(1), 20);
        x.nextHole();
        Check.same("36: its score", x.score(0, 0), 2);
        Check.same("36: its score", x.score(1, 0), 2);
        Check.same("37: halved", x.up(), 0);
    }

    private static void concedesHoles() {
        FairwayChancery x = match(4);
        Play.to(x, 0, 8, 10);
        x.suspend(true);
        Check.same("29: at once", x.concede(0, 'h'), -1);
        Check.same("29: picked up", x.state(0), 'u');
        Check.same("29: both", x.state(1), 'u');
        Check.same("37: at once", x.up(), -1);
        Check.unsupported("29: once a hole", () -> x.concede(0, 'h'));
        Check.unsupported("29: once a hole", () -> x.concede(1, 'h'));
        x.nextHole();
        Check.same("37: not twice", x.up(), -1);
        x.suspend(false);
        Play.holeWith(x, 1, 1);
        Check.same("29: by the other one, holed ahead", x.concede(1, 'h'), 0);
        Check.same("29: what is done stays", x.state(1), 'h');
        Check.same("29: picked up", x.state(0), 'u');
        x.nextHole();
        Check.same("36: a score of a conceded hole", x.score(1, 1), 1);
        Check.missing("36: none", () -> x.score(0, 1));
        Check.same("37: whatever the scores", x.up(), 0);
        Play.holeWith(x, 0, 1);
        Play.holeWith(x, 1, 2);
        Check.same("29: behind both", x.concede(0, 'h'), -1);
        x.nextHole();
        Check.same("37: whatever the scores", x.up(), -1);
        Check.no("38: one down with one left", x.isMatchOver());
        Check.same("29: the last one", x.concede(1, 'h'), 0);
        Check.no("38: none left, none up, and not over", x.isMatchOver());
        x.nextHole();
        Check.yes("38: the round is over", x.isMatchOver());
        Check.same("37: of the last one", x.up(), 0);
    }

    private static void concedesTheMatch() {
        FairwayChancery x = match(2);
        Check.no("38: not at first", x.isMatchOver());
        Play.to(x, 0, 8, 10);
        x.suspend(true);
        Check.same("29: nothing else changes", x.concede(0, 'm'), 0);
        Check.yes("38: it is conceded", x.isMatchOver());
        Check.same("37: nothing else changes", x.up(), 0);
        Check.same("29: nothing else changes", x.state(0), 'l');
        Check.same("29: nothing else changes", x.state(1), 'n');
        Check.same("29: again", x.concede(1, 'm'), 0);
        Check.same("29: the hole all the same", x.concede(1, 'h'), 1);
        x.nextHole();
        x.suspend(false);
        Play.holeOut(x, 1, 2);
        Check.same("37: play goes on", x.up(), 2);
        x.begin('m');
        Check.no("38: a new one", x.isMatchOver());
        Check.same("37: a new one", x.up(), 0);
        Play.holeOut(x, 1, 2);
        Check.no("38: a new one, 1 up with 1 left", x.isMatchOver());
    }

    private static void concedeRefused() {
        FairwayChancery x = match(1);
        Check.bounds("29: no such player", () -> x.concede(2, 'q'));
        Check.bounds("29: no such player", () -> x.concede(-1, 'm'));
        for (char what : new char[] {'q', 'M', 0, (char) 65535}) {
            Check.argument("29: no such thing", () -> x.concede(0, what));
        }
        Check.unsupported("29: it has not begun", () -> x.concede(0, 's'));
        Play.to(x, 0, 0, 10, 1, -1, 0);
        Check.unsupported("29: it is sought", () -> x.concede(1, 's'));
        Play.to(x, 1, 8, 10);
        Check.unsupported("29: the other one's, not one's own", () -> x.concede(1, 's'));
        x.pickUp(0);
        x.pickUp(1);
        Check.unsupported("29: it is picked up", () -> x.concede(0, 's'));
        x.nextHole();
        Check.argument("29: the thing ahead of over", () -> x.concede(0, 'q'));
        Check.state("29: over", () -> x.concede(0, 'm'));
        Check.state("29: no round", () -> Play.flat(2).concede(0, 'm'));
        FairwayChancery y = Play.shortHoles(1, 2);
        y.begin('s');
        Play.to(y, 1, 8, 10);
        for (char what : new char[] {'s', 'h', 'm'}) {
            Check.unsupported("29: no match", () -> y.concede(0, what));
        }
        Check.same("29: nothing changed", y.state(1), 'l');
    }

    private static void countsHoles() {
        FairwayChancery x = match(7);
        Play.holeWith(x, 0, 1);
        Play.holeWith(x, 1, 2);
        Check.same("37: it does not count yet", x.up(), 0);
        x.nextHole();
        Check.same("37: the lower score", x.up(), 1);
        Play.holeOut(x, 3, 3);
        Check.same("37: halved", x.up(), 1);
        Play.holeOut(x, 3, 2);
        Check.same("37: lost", x.up(), 0);
        Play.holeOut(x, 0, 5);
        Check.same("37: who has a score wins", x.up(), -1);
        Play.holeOut(x, 5, 0);
        Check.same("37: who has a score wins", x.up(), 0);
        Play.holeOut(x, 0, 0);
        Check.same("37: none has one", x.up(), 0);
        Check.no("38: one left", x.isMatchOver());
        Play.to(x, 0, 8, 10);
        x.again(0);
        Play.holeWith(x, 0, 1);
        Play.holeWith(x, 1, 2);
        x.nextHole();
        Check.same("37: penalties count", x.up(), -1);
        Check.yes("38: over", x.isMatchOver());
    }

    private static void countsWithHandicaps() {
        FairwayChancery x = Play.shortHoles(3, 2);
        x.setHandicap(0, 10);
        x.setHandicap(1, 6);
        x.begin('m');
        // A difference of 4 on 3 holes: 2 strokes on the first hole, 1 on each of the others.
        Play.holeOut(x, 4, 2);
        Check.same("37: 2 strokes", x.up(), 0);
        Play.holeOut(x, 3, 2);
        Check.same("37: 1 stroke", x.up(), 0);
        Play.holeOut(x, 2, 2);
        Check.same("37: 1 stroke", x.up(), 1);
        x.setHandicap(0, 6);
        x.setHandicap(1, 7);
        x.begin('m');
        Play.holeOut(x, 2, 3);
        Check.same("37: 1 stroke of the other one", x.up(), 0);
        Play.holeOut(x, 2, 3);
        Check.same("37: none", x.up(), 1);
        Play.holeOut(x, 3, 3);
        Check.same("37: none", x.up(), 1);
    }

    private static void handicapsOfBoth() {
        FairwayChancery x = Play.shortHoles(2, 2);
        x.setHandicap(0, 36);
        x.setHandicap(1, 35);
        x.begin('m');
        Play.holeOut(x, 2, 1);
        Check.same("37: the difference alone", x.up(), 0);
        Play.holeOut(x, 2, 1);
        Check.same("37: the difference alone", x.up(), -1);
    }

    private static void overBeforeTheEnd() {
        FairwayChancery x = match(4);
        Play.holeOut(x, 1, 2);
        Play.holeOut(x, 1, 2);
        Check.no("38: 2 up with 2 left", x.isMatchOver());
        Play.holeWith(x, 0, 1);
        Play.holeWith(x, 1, 1);
        Check.no("38: it does not count yet", x.isMatchOver());
        x.nextHole();
        Check.yes("38: 2 up with 1 left", x.isMatchOver());
        Play.holeOut(x, 2, 1);
        Check.same("37: all holes count", x.up(), 1);
        FairwayChancery y = match(3);
        Play.holeOut(y, 2, 1);
        Check.same("29: conceded", y.concede(0, 'h'), -2);
        Check.yes("38: 2 down with 1 left, at once", y.isMatchOver());
    }

    private static void noMatch() {
        FairwayChancery x = Play.shortHoles(1, 2);
        Check.unsupported("37: none", () -> x.up());
        Check.unsupported("38: none", () -> x.isMatchOver());
        x.begin('s');
        Check.unsupported("37: no match", () -> x.up());
        Check.unsupported("38: no match", () -> x.isMatchOver());
        Play.holeOut(x, 1, 2);
        x.begin('m');
        Play.holeOut(x, 1, 2);
        Check.same("37: of the last one", x.up(), 1);
        x.begin('s');
        Check.unsupported("37: the last one is no match", () -> x.up());
        Check.unsupported("38: the last one is no match", () -> x.isMatchOver());
    }
}
