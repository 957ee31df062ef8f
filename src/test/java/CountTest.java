/** None, one and the most of what can be had: holes, areas, players, balls, scores, skins, differences, calls. */
public final class CountTest {
    private static final int[] LOWEST = {1, 1, 1, 1, 1, 2, 2, 2, 3, 3, 3, 4, 4, 4, 5, 5, 6, 6, 7, 8};

    public static void main(String[] args) {
        nothingAtAll();
        holes();
        areas();
        players();
        matchOfTwo();
        honourOfSix();
        provisionalBalls();
        wrongPlaces();
        concededHoles();
        noScores();
        skins();
        skinsThatWait();
        signedCards();
        lowerOnEachHole();
        penaltiesOnEachHole();
        postedCard();
        differences();
        meansOfEachCount();
        oldestLeaves();
        longScore();
        longRound();
        Check.end();
    }

    private static void nothingAtAll() {
        FairwayChancery x = new FairwayChancery();
        Check.same("54: no holes", x.checksum(), 7L);
        Check.same("48: no players", x.cut(1), 0);
        Check.yes("57: sound", x.isSound());
        Refused.by("u", x, "begin", 's');
        Refused.by("b", x, "gets", 0, 0);
        Refused.by("b", x, "meanScore", 0);
        Check.same("5: the first player", x.player(), 0);
        Check.same("42: no holes", x.stableford(0), 0);
        Check.same("41: no holes", x.total(0), 0);
        Check.no("35: no round", x.isOut(0));
        Refused.by("u", x, "begin", 's');
        Check.same("2: the first hole", x.hole(4, 9, 25, 10, 3, 10), 0);
        Check.same("10: one of each", x.begin('s'), 1);
    }

    private static void holes() {
        for (int holes : new int[] {1, 2, 8, 9}) {
            FairwayChancery x = Play.shortHoles(holes, 1);
            Check.same("10: all holes", x.begin('s'), holes);
            for (int hole = 0; hole < holes; hole++) {
                Check.same("11: the hole that is on", x.holeOn(), hole);
                Refused.by("n", x, "score", 0, hole);
                Play.holeWith(x, 0, 1 + hole % 2);
                Check.same("30: the next one, or all", x.nextHole(), hole + 1);
                Check.same("36: told", x.score(0, hole), 1 + hole % 2);
                Check.same("56: of one", x.meanScore(hole), 1 + hole % 2);
            }
            Refused.by("s", x, "nextHole");
            Refused.by("b", x, "score", 0, holes);
            Check.same("41: all holes", x.total(0), holes + holes / 2);
            Check.same("45: all holes", x.skins(0), holes);
            Check.yes("40: all holes", x.sign(0));
        }
    }

    /** As many areas as there can be, on each of nine holes, the last one told on the top. */
    private static void areas() {
        FairwayChancery x = Play.shortHoles(9, 0);
        String kinds = "gbdyrwpogbdy";
        for (int hole = 0; hole < 9; hole++) {
            Check.same("3: none", x.kindAt(hole, hole, hole), '.');
            for (int i = 0; i < 12; i++) {
                char kind = kinds.charAt((i + hole) % 12);
                Check.same("3: how many", x.area(hole, kind, 0, 0, 29 - i, 19 - i), i + 1);
                Check.same("3: the last one", x.kindAt(hole, 0, 0), kind);
            }
            Refused.by("s", x, "area", hole, '.', 0, 0, 0, 0);
            for (int i = 0; i < 12; i++) {
                char kind = kinds.charAt((i + hole) % 12);
                Check.same("3: each where no later one lies", x.kindAt(hole, 29 - i, 19 - i), kind);
            }
        }
    }

    private static void players() {
        for (int players : new int[] {1, 2, 5, 6}) {
            FairwayChancery x = Play.shortHoles(1, players);
            x.begin('s');
            for (int i = 0; i < players; i++) {
                Check.same("12: by numbers", x.away(), i);
                Play.holeWith(x, i, 2);
            }
            Refused.by("n", x, "away");
            x.nextHole();
            for (int i = 0; i < players; i++) {
                Check.yes("40: each", x.sign(i));
                Check.same("45: alone, or nobody", x.skins(i), players == 1 ? 1 : 0);
                Check.same("46: like ones", x.rank(i), 1);
            }
            Check.same("48: all", x.cut(1), players);
            Check.same("56: of all", x.meanScore(0), 2);
            Refused.by("b", x, "rank", players);
        }
    }

    private static void matchOfTwo() {
        FairwayChancery x = Play.shortHoles(1, 2);
        Check.same("10: just two", x.begin('m'), 1);
        Play.holeOut(x, 1, 2);
        Check.same("37: one hole", x.up(), 1);
        Check.yes("38: over", x.isMatchOver());
        x.begin('m');
        Check.same("37: none", x.up(), 0);
        Check.no("38: none up, one left", x.isMatchOver());
    }

    /** Scores that turn the order of six about, and then leave it as it is. */
    private static void honourOfSix() {
        FairwayChancery x = Play.shortHoles(3, 6);
        x.begin('s');
        Play.holeOut(x, 6, 5, 4, 3, 2, 1);
        int[] turned = {5, 4, 3, 2, 1, 0};
        for (int player : turned) {
            Check.same("12: by scores", x.away(), player);
            Play.holeWith(x, player, 2);
        }
        x.nextHole();
        for (int player : turned) {
            Check.same("12: by the honour of that hole", x.away(), player);
            x.pickUp(player);
        }
    }

    private static FairwayChancery sought() {
        FairwayChancery x = Play.shortHoles(1, 1);
        x.begin('s');
        Play.to(x, 0, 0, 10, 1, -1, 0);
        return x;
    }

    private static void provisionalBalls() {
        FairwayChancery none = sought();
        Check.same("16: without one", none.search(0), 'x');
        Check.same("16: nothing counts", none.strokes(0) * 10 + none.penalties(0), 10);
        FairwayChancery one = sought();
        one.setSeed(Play.seedFor(1, 0, 0));
        Check.same("15: it lies", one.provisional(0, 10, 10), 'l');
        Refused.by("u", one, "provisional", 0, 9, 10);
        Check.same("16: with one", one.search(0), 'l');
        Check.same("16: 1 stroke and 1 penalty", one.strokes(0) * 10 + one.penalties(0), 21);
        Play.to(one, 0, 0, 10, 1, -1, 0);
        one.setSeed(Play.seedFor(1, 0, 0));
        Check.same("15: one for each ball that is sought", one.provisional(0, 9, 10), 'l');
        Refused.by("u", one, "provisional", 0, 9, 11);
    }

    private static void wrongPlaces() {
        FairwayChancery x = Play.shortHoles(1, 1);
        x.begin('s');
        Play.to(x, 0, 7, 10);
        Check.same("34: none", x.penalties(0), 0);
        for (int i = 1; i <= 5; i++) {
            Check.no("22: one", x.wrongPlace(0, 7, 12));
            Refused.by("u", x, "wrongPlace", 0, 7, 11);
            Play.to(x, 0, 7, 10);
            Check.same("13: 2 penalties each", x.penalties(0), 2 * i);
        }
    }

    private static void concededHoles() {
        FairwayChancery x = Play.shortHoles(9, 2);
        x.begin('m');
        for (int i = 1; i <= 9; i++) {
            Check.same("29: one on each hole", x.concede(1, 'h'), i);
            Refused.by("u", x, "concede", 1, 'h');
            Refused.by("u", x, "concede", 0, 'h');
            Check.same("30: the next one", x.nextHole(), i);
        }
        Check.same("37: all", x.up(), 9);
        x.begin('m');
        for (int i = 1; i <= 9; i++) {
            Check.same("29: one on each hole", x.concede(0, 'h'), -i);
            x.nextHole();
        }
        Check.same("37: all", x.up(), -9);
    }

    private static void noScores() {
        FairwayChancery x = Play.shortHoles(9, 2);
        x.setHandicap(1, 36);
        x.begin('s');
        for (int i = 0; i < 9; i++) {
            Play.holeOut(x, 0, 0);
        }
        for (int player = 0; player < 2; player++) {
            Check.same("42: none", x.stableford(player), 0);
            Check.same("43: none", x.parPlay(player), -9);
            Check.same("45: none", x.skins(player), 0);
            Refused.by("n", x, "sign", player);
            Refused.by("n", x, "total", player);
            Refused.by("m", x, "penaltyShare", player);
        }
        Refused.by("n", x, "together", 0, 1);
        Refused.by("m", x, "meanScore", 8);
        Check.same("48: none", x.cut(6), 0);
        Check.yes("57: none", x.isSound());
    }

    private static void skins() {
        FairwayChancery x = Play.shortHoles(9, 6);
        x.begin('s');
        for (int i = 0; i < 8; i++) {
            Play.holeOut(x, 0, 0, 0, 0, 0, 0);
        }
        Play.holeOut(x, 2, 2, 2, 2, 2, 1);
        Check.same("45: the most, on the last hole", x.skins(5), 9);
        Check.same("45: none", x.skins(0), 0);
        Check.yes("57: at most the holes", x.isSound());
        x.write(0, 8, 1);
        Check.same("45: nobody", x.skins(5), 0);
        x.write(0, 0, 99);
        Check.same("45: alone on the first hole", x.skins(0), 1);
        Check.same("45: nobody on the last one", x.skins(5), 0);
    }

    /** Those of holes ahead that nobody got go over once, and not to later holes. */
    private static void skinsThatWait() {
        FairwayChancery x = Play.shortHoles(5, 2);
        x.begin('s');
        Play.holeOut(x, 2, 2);
        Play.holeOut(x, 1, 2);
        Play.holeOut(x, 2, 1);
        Play.holeOut(x, 2, 2);
        Play.holeOut(x, 2, 2);
        Check.same("45: its own and one ahead", x.skins(0), 2);
        Check.same("45: its own", x.skins(1), 1);
        x.write(1, 4, 1);
        Check.same("45: its own and one ahead", x.skins(1), 3);
    }

    private static void signedCards() {
        FairwayChancery x = Play.shortHoles(1, 6);
        x.begin('s');
        Play.holeOut(x, 6, 5, 4, 3, 2, 1);
        Check.same("48: none", x.cut(6), 0);
        for (int i = 0; i < 6; i++) {
            x.sign(i);
            Check.same("46: the lowest of those that signed", x.rank(i), 1);
            Check.same("48: of those that signed", x.cut(6), i + 1);
            Check.same("48: the lowest alone", x.cut(1), 1);
        }
        Check.same("46: the highest", x.rank(0), 6);
        Check.same("48: but one", x.cut(5), 5);
    }

    /** A lower score on any of nine holes, the first and the last one too; a higher one on another does not help. */
    private static void lowerOnEachHole() {
        for (int hole = 0; hole < 9; hole++) {
            for (int score = 1; score <= 3; score++) {
                FairwayChancery x = Play.shortHoles(9, 1);
                x.begin('s');
                for (int i = 0; i < 9; i++) {
                    Play.holeOut(x, 2);
                }
                x.write(0, (hole + 4) % 9, 3);
                x.write(0, hole, score);
                Check.yes("40: " + score + " for 2 on the hole " + hole, x.sign(0) == score >= 2);
                Check.yes("35: " + score + " for 2 on the hole " + hole, x.isOut(0) == score < 2);
            }
        }
    }

    private static void penaltiesOnEachHole() {
        FairwayChancery x = Play.shortHoles(9, 1);
        x.begin('s');
        for (int hole = 0; hole < 9; hole++) {
            Play.to(x, 0, 12, 12);
            for (int i = 0; i <= hole; i++) {
                x.move(0, 'p', 0, 0);
            }
            Play.to(x, 0, 13, 10);
            x.nextHole();
            int penalties = (hole + 1) * (hole + 2) / 2;
            Check.same("55: so far", x.penaltyShare(0), (float) penalties / (float) (penalties + 2 * hole + 2));
        }
    }

    /** Posting takes nothing from the card. */
    private static void postedCard() {
        FairwayChancery x = Play.shortHoles(1, 2);
        x.begin('s');
        Play.holeOut(x, 2, 3);
        x.sign(0);
        x.sign(1);
        x.post(0, 100, 113);
        Check.no("35: not out by it", x.isOut(0));
        Check.same("46: a rank still", x.rank(0), 1);
        Check.same("46: less still", x.rank(1), 2);
        Check.yes("47: ahead still", x.isAhead(0, 1));
        Check.same("48: made still", x.cut(2), 2);
        Refused.by("u", x, "sign", 0);
        Refused.by("u", x, "write", 0, 0, 5);
        Check.same("50: the other one's", x.post(1, 100, 113), -70);
    }

    private static FairwayChancery poster() {
        FairwayChancery x = Play.shortHoles(1, 1);
        x.setHandicap(0, 36);
        return x;
    }

    /** A difference of -380 to 320, by the most that counts on one hole and a rating. */
    private static int bring(FairwayChancery x, int difference) {
        x.begin('s');
        Play.holeOut(x, 1);
        x.write(0, 0, 42);
        x.sign(0);
        return x.post(0, 420 - difference, 113);
    }

    private static void differences() {
        FairwayChancery x = poster();
        Refused.by("b", x, "difference", 0, 0);
        Refused.by("n", x, "index", 0);
        Refused.by("n", x, "lowIndex", 0);
        for (int i = 0; i < 25; i++) {
            bring(x, 100 + i);
            int kept = Math.min(20, i + 1);
            Check.same("51: the oldest", x.difference(0, 0), 100 + i + 1 - kept);
            Check.same("51: the newest", x.difference(0, kept - 1), 100 + i);
            Refused.by("b", x, "difference", 0, kept);
        }
    }

    /** The lowest come last, one lower by 4 than the other, so that each count makes another mean. */
    private static void meansOfEachCount() {
        FairwayChancery x = poster();
        for (int i = 0; i < 20; i++) {
            bring(x, 150 - 4 * i);
            int lowest = LOWEST[i];
            int sum = 0;
            for (int k = 0; k < lowest; k++) {
                sum += 150 - 4 * (i - k);
            }
            Check.same("52: of " + (i + 1), x.index(0), Math.floorDiv(sum, lowest));
            Check.yes("57: of " + (i + 1), x.isSound());
        }
    }

    /** With 20 kept the oldest leaves; a low one then counts no more. */
    private static void oldestLeaves() {
        FairwayChancery x = poster();
        bring(x, 100);
        for (int i = 1; i < 20; i++) {
            bring(x, 116);
        }
        Check.same("52: one of the lowest 8", x.index(0), 114);
        bring(x, 116);
        Check.same("52: it has left", x.index(0), 116);
        Check.same("53: but not the low index", x.lowIndex(0), 100);
    }

    /** A score beyond 99 is told, and written, as it is; a marker cannot write it. */
    private static void longScore() {
        FairwayChancery x = Play.shortHoles(1, 1);
        x.begin('s');
        Play.to(x, 0, 12, 12);
        for (int i = 0; i < 480; i++) {
            x.move(0, 'p', 0, 0);
        }
        Check.same("24: the score so far", x.strokes(0) + x.penalties(0), 481);
        Play.to(x, 0, 13, 10);
        x.nextHole();
        Check.same("36: told", x.score(0, 0), 482);
        Check.same("41: written", x.total(0), 482);
        Check.same("55: a share", x.penaltyShare(0), 480f / 482f);
        Check.yes("40: signed", x.sign(0));
        Check.same("50: at most 6", x.post(0, 100, 113), -40);
    }

    /** Some 500 calls on one object, all its rows in use, leave it as right as the first. */
    private static void longRound() {
        FairwayChancery x = Play.shortHoles(9, 6);
        for (int round = 0; round < 3; round++) {
            x.begin('s');
            for (int hole = 0; hole < 9; hole++) {
                Play.holeOut(x, 1, 1, 0, 1, 0, 1);
            }
            for (int i = 0; i < 6; i++) {
                if (i == 2 || i == 4) {
                    Refused.by("n", x, "sign", i);
                } else {
                    Check.yes("40: signed", x.sign(i));
                    Check.same("50: each round", x.post(i, 100, 113), -10);
                }
            }
        }
        Check.same("51: each round", x.difference(5, 2), -10);
        Check.same("56: each round", x.meanScore(8), 1);
        Check.yes("57: sound", x.isSound());
    }
}
