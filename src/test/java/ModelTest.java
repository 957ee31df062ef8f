import java.util.Map;
import java.util.TreeMap;

/** Random runs, each call compared with PlainLaw; the numbers of runs are fixed, so a run is always the same. */
public final class ModelTest {
    private static final int RUNS = 12000;

    /** Every method is to answer this often, so that the comparison is not an empty one. */
    private static final int LEAST_SEEN = 500;
    private static final int LEAST_WITHOUT_POINT = 200;

    public static void main(String[] args) {
        Map<String, Integer> seen = new TreeMap<>();
        int from = args.length > 0 ? Integer.parseInt(args[0]) : 0;
        int runs = args.length > 1 ? Integer.parseInt(args[1]) : RUNS;
        for (int seed = from; seed < from + runs; seed++) {
            Driver d = new Driver(seed, seen);
            course(d);
            while (d.isOver() && d.oneIn(120) ? career(d) : d.isOver() ? behind(d) : step(d)) {
                continue;
            }
            if (d.fault != null) {
                tell(seed, d);
                Check.end();
            }
        }
        Check.same("runs without a fault", runs, runs);
        for (String name : Driver.names()) {
            Check.yes(name + " answered often: " + seen.getOrDefault(name, 0), runs < RUNS
                    || seen.getOrDefault(name, 0) >= LEAST_SEEN);
        }
        int noPoint = seen.getOrDefault("free throws.java.util.NoSuchElementException", 0);
        Check.yes("free met ground without a point often: " + noPoint, runs < RUNS || noPoint >= LEAST_WITHOUT_POINT);
        if (args.length > 2) {
            seen.forEach((k, v) -> System.out.println(v + " " + k));
        }
        Check.end();
    }

    private static void tell(int seed, Driver d) {
        for (String line : d.told) {
            System.out.println(line);
        }
        Check.tell("run " + seed + ": the last call above; " + d.fault);
    }

    /** Nearly all courses have a green about the cup, so that balls are holed. */
    private static void course(Driver d) {
        int holes = d.oneIn(6) ? 1 + d.below(9) : 1 + d.below(3);
        int shift = d.below(9);
        for (int i = 0; i < holes; i++) {
            int[] cup = {d.below(30), d.below(20)};
            int[] tee = d.oneIn(3) ? new int[] {d.below(30), d.below(20)} : d.inside(d.around(cup, 11));
            if (tee[0] == cup[0] && tee[1] == cup[1] || tee[0] < 0 || tee[1] < 0 || tee[0] > 29 || tee[1] > 19) {
                tee = new int[] {29 - cup[0], cup[1]};
            }
            d.call("hole", 3 + d.below(3), (i * 4 + shift) % 9 + 1, cup[0], cup[1], tee[0], tee[1]);
            d.cups.add(cup);
            d.tees.add(tee);
            areas(d, i, cup);
        }
        d.players = d.oneIn(3) ? 1 + d.below(6) : 2;
        for (int i = 0; i < d.players; i++) {
            d.call("player");
            if (d.oneIn(2)) {
                d.call("setHandicap", i, d.below(37));
            }
        }
        if (d.oneIn(2)) {
            d.call("setSeed", d.random.nextInt());
        }
        d.call("begin", d.players == 2 && d.oneIn(2) ? 'm' : 's');
    }

    private static void areas(Driver d, int hole, int[] cup) {
        if (d.oneIn(25)) {
            groundAtTheCupAlone(d, hole, cup);
            return;
        }
        if (d.oneIn(5)) {
            d.call("area", hole, d.anyKind(), 0, 0, 29, 19);
        }
        int areas = d.below(8);
        for (int i = 0; i < areas; i++) {
            int left = d.below(30);
            int low = d.below(20);
            int right = Math.min(29, left + d.below(9));
            int high = Math.min(19, low + d.below(9));
            d.call("area", hole, d.anyKind(), left, low, right, high);
        }
        if (d.oneIn(3)) {
            d.call("area", hole, d.oneIn(2) ? 'w' : 'p', d.below(15), d.below(10), 15 + d.below(15), 10 + d.below(10));
        }
        if (!d.oneIn(4)) {
            d.call("area", hole, 'g', Math.max(0, cup[0] - 3), Math.max(0, cup[1] - 3), Math.min(29, cup[0] + 3),
                    Math.min(19, cup[1] + 3));
        }
    }

    /** Farther off than the ground reaches there is no point of relief. */
    private static void groundAtTheCupAlone(Driver d, int hole, int[] cup) {
        d.call("area", hole, d.oneIn(2) ? 'w' : 'p', 0, 0, 29, 19);
        d.call("area", hole, '.', Math.max(0, cup[0] - 4), Math.max(0, cup[1] - 4), Math.min(29, cup[0] + 4),
                Math.min(19, cup[1] + 4));
        d.call("area", hole, d.anyKind(), Math.max(0, cup[0] - 2), Math.max(0, cup[1] - 4), Math.min(29, cup[0] + 1),
                cup[1]);
    }

    private static boolean step(Driver d) {
        int player = d.anyPlayer();
        switch (d.below(100)) {
            case 0: case 1: case 2: case 3: case 4: case 5: case 6: case 7: case 8: case 9: case 10: case 11:
            case 12: case 13: case 14: case 15: case 16: case 17: case 18: case 19: case 20: case 21: case 22:
                return aimed(d, "stroke", player);
            case 23: case 24: case 25: case 26: case 27: case 28: case 29: case 30: case 31: case 32: case 33:
                return next(d);
            case 34: case 35:
                return aimed(d, "odds", player);
            case 36: case 37: case 38: case 39: case 40: case 41:
                return sought(d, player);
            case 42: case 43: case 44: case 45: case 46: case 47: case 48: case 49: case 50: case 51: case 52:
                return relief(d, player);
            case 53: case 54: case 55: case 56: case 57: case 58:
                return wrong(d, player);
            case 59: case 60: case 61: case 62: case 63: case 64: case 65: case 66:
                return other(d, player);
            case 67: case 68: case 69: case 70: case 71: case 72:
                return match(d, player);
            case 73: case 74: case 75: case 76: case 77: case 78: case 79: case 80:
                return cards(d, player);
            case 81: case 82: case 83: case 84: case 85:
                return round(d, player);
            case 86:
                return course(d, player);
            default:
                return ask(d, player);
        }
    }

    /** Behind a round: what is asked of cards, ranks and handicaps. */
    private static boolean behind(Driver d) {
        int player = d.anyPlayer();
        int other = d.anyPlayer();
        switch (d.below(13)) {
            case 0:
            case 1:
                return cards(d, player);
            case 2:
                return ask(d, player);
            case 3:
                return step(d);
            case 4:
                return d.call("rank", player);
            case 5:
                return d.call("isAhead", player, other);
            case 6:
                return d.call("together", player, other);
            case 7:
                return d.call("cut", 1 + d.below(6));
            case 8:
                return d.call("skins", player);
            case 9:
                return d.call("post", player, 100 + d.below(250), 55 + d.below(101));
            case 10:
                return d.call("total", player) && d.call("stableford", player) && d.call("parPlay", player);
            case 11:
                return d.call("difference", player, d.below(20)) && d.call("index", player);
            default:
                return d.call("sign", player);
        }
    }

    /** Rounds one behind the other, all holed by a stroke and one conceded or picked up, till a card is posted. */
    private static boolean career(Driver d) {
        int rounds = 1 + d.below(30);
        for (int i = 0; i < rounds && d.fault == null && d.calls < Driver.MOST_CALLS; i++) {
            d.call("begin", d.players == 2 && d.oneIn(2) ? 'm' : 's');
            for (int k = 0; k < 60 && !d.isOver() && d.fault == null && d.calls < Driver.MOST_CALLS; k++) {
                next(d);
            }
            for (int player = 0; player < d.players; player++) {
                if (d.oneIn(3)) {
                    d.call("write", player, d.below(d.cups.size()), 1 + d.below(40));
                }
                d.call("sign", player);
                d.call("post", player, 100 + d.below(300), 55 + d.below(101));
                d.call("index", player);
                d.call("lowIndex", player);
                d.call("difference", player, d.below(20));
            }
        }
        return d.call("isSound");
    }

    /** The next one in order plays, which brings a hole to its end. */
    private static boolean next(Driver d) {
        try {
            int player = d.theirs.away();
            if (d.theirs.state(player) == 'l' || d.theirs.state(player) == 'n') {
                return aimed(d, "stroke", player);
            }
            return d.call(d.oneIn(3) ? "again" : "search", player);
        } catch (java.util.NoSuchElementException e) {
            return d.call("nextHole");
        } catch (IllegalStateException e) {
            return cards(d, d.anyPlayer());
        }
    }

    private static boolean aimed(Driver d, String name, int player) {
        int[] aim = d.inside(d.around(d.lieOf(player), 2 + d.below(10)));
        if (!d.oneIn(3)) {
            aim = toward(d, d.lieOf(player), d.cup());
        }
        if (name.equals("odds")) {
            return d.call(name, player, aim[0], aim[1], d.oneIn(3) ? "cf".charAt(d.below(2)) : d.anyKind());
        }
        return d.call(name, player, aim[0], aim[1]);
    }

    private static int[] toward(Driver d, int[] from, int[] to) {
        int dx = to[0] - from[0];
        int dy = to[1] - from[1];
        double far = Math.sqrt(dx * dx + dy * dy);
        int reach = 3 + d.below(10);
        if (far <= reach) {
            return to;
        }
        return new int[] {from[0] + (int) (dx * reach / far), from[1] + (int) (dy * reach / far)};
    }

    private static boolean sought(Driver d, int player) {
        if (d.oneIn(2)) {
            return d.call("search", player);
        }
        int[] aim = d.inside(d.around(d.oneIn(2) ? d.cup() : d.tees.get(d.holeNow()), 6));
        return d.call("provisional", player, aim[0], aim[1]);
    }

    private static boolean relief(Driver d, int player) {
        int[] lie = d.lieOf(player);
        switch (d.below(9)) {
            case 0:
                return d.call("again", player);
            case 1:
                return d.call("line", player, d.oneIn(20) ? d.below(12) - 1 : 1 + d.below(4));
            case 2:
            case 3:
                int[] aside = d.inside(d.around(lie, 2));
                return d.call("aside", player, aside[0], aside[1]);
            case 4:
                return d.call("point", player, d.oneIn(2));
            default:
                return free(d, player);
        }
    }

    private static boolean free(Driver d, int player) {
        int[] at = d.lieOf(player);
        try {
            at = new int[] {d.theirs.point(player, true), d.theirs.point(player, false)};
        } catch (java.util.NoSuchElementException e) {
            at = d.inside(d.around(d.cup(), d.below(4)));
            return d.call("free", player, at[0], at[1]);
        } catch (RuntimeException e) {
            return d.call("free", player, at[0], at[1]);
        }
        d.call("point", player, d.oneIn(2));
        at = d.inside(d.around(at, d.below(2)));
        return d.call("free", player, at[0], at[1]);
    }

    private static boolean wrong(Driver d, int player) {
        if (d.oneIn(3)) {
            return d.call("correct", player);
        }
        int[] at = d.inside(d.oneIn(2) ? d.around(d.cup(), 3) : d.around(d.lieOf(player), 6));
        return d.call("wrongPlace", player, at[0], at[1]);
    }

    private static boolean other(Driver d, int player) {
        int[] at = d.around(d.oneIn(3) ? d.tees.get(d.holeNow()) : d.lieOf(player), d.below(4));
        switch (d.below(8)) {
            case 0:
            case 1:
            case 2:
                return d.call("move", player, "pekw".charAt(d.below(4)), at[0], at[1]);
            case 3:
                return d.call("move", player, d.oneIn(20) ? (char) d.below(128) : 'w', at[0], at[1]);
            case 4:
            case 5:
                return d.call("wrongBall", player, d.anyPlayer());
            case 6:
                return d.call("suspend", d.oneIn(4));
            default:
                return d.oneIn(4) ? d.call("pickUp", player) : d.call("suspend", false);
        }
    }

    private static boolean match(Driver d, int player) {
        switch (d.below(6)) {
            case 0:
            case 1:
            case 2:
                return d.call("cancel", player);
            case 3:
                return d.call("concede", player, d.oneIn(3) ? "shm".charAt(d.below(3)) : 's');
            case 4:
                return d.call("up");
            default:
                return d.call("isMatchOver");
        }
    }

    private static boolean cards(Driver d, int player) {
        int hole = d.below(d.cups.size());
        switch (d.below(9)) {
            case 0:
                return d.call("write", player, hole, d.oneIn(20) ? d.below(110) - 5 : 1 + d.below(12));
            case 1:
            case 2:
                return d.call("sign", player);
            case 3:
            case 4:
                return d.call("post", player, d.oneIn(20) ? d.below(900) : 100 + d.below(250), d.oneIn(20)
                        ? d.below(200) : 55 + d.below(101));
            case 5:
                return d.call("conditions", d.oneIn(10) ? d.below(9) - 3 : d.below(5) - 1);
            case 6:
                return d.call("index", player);
            default:
                return d.call("begin", d.oneIn(2) ? 'm' : 's');
        }
    }

    /** Now and then all pick up, or are holed by a stroke conceded, so that rounds end. */
    private static boolean round(Driver d, int player) {
        if (!d.oneIn(12)) {
            return d.call(d.oneIn(3) ? "away" : "nextHole");
        }
        for (int i = 0; i < d.players; i++) {
            d.call("pickUp", i);
        }
        return d.call("nextHole");
    }

    private static boolean course(Driver d, int player) {
        switch (d.below(7)) {
            case 0:
                return d.call("hole", 2 + d.below(5), d.below(11), d.below(31), d.below(21), d.below(31), d.below(21));
            case 1:
                return d.call("area", d.below(3), d.anyKind(), d.below(30), d.below(20), d.below(30), d.below(20));
            case 2:
                return d.call("player");
            case 3:
                return d.call("setHandicap", player, d.below(40) - 1);
            case 4:
                return d.call("edition", "nox".charAt(d.below(3)));
            case 5:
                return d.call("setSeed", d.random.nextInt());
            default:
                return d.oneIn(3) ? d.call("begin", 'x') : d.call("suspend", true);
        }
    }

    private static boolean ask(Driver d, int player) {
        int hole = d.oneIn(30) ? d.below(11) - 1 : d.below(d.cups.size());
        switch (d.below(25)) {
            case 0:
                return d.call("kindAt", hole, d.below(32) - 1, d.below(22) - 1);
            case 1:
                return d.call("gets", player, hole);
            case 2:
                return d.call("holeOn");
            case 3:
                return d.call("state", player);
            case 4:
            case 5:
                return d.call("lie", player, d.oneIn(2));
            case 6:
                return d.call("strokes", player);
            case 7:
                return d.call("penalties", player);
            case 8:
                return d.call("isOut", player);
            case 9:
                return d.call("score", player, hole);
            case 10:
                return d.call("total", player);
            case 11:
                return d.call("stableford", player);
            case 12:
                return d.call("parPlay", player);
            case 13:
                return d.call("together", player, d.anyPlayer());
            case 14:
                return d.call("skins", player);
            case 15:
                return d.call("rank", player);
            case 16:
                return d.call("isAhead", player, d.anyPlayer());
            case 17:
                return d.call("cut", d.below(8));
            case 18:
                return d.call("difference", player, d.below(6));
            case 19:
                return d.call("lowIndex", player);
            case 20:
                return d.call("penaltyShare", player);
            case 21:
                return d.call("meanScore", hole);
            case 22:
                return d.call("checksum");
            case 23:
                return d.call("away");
            default:
                return d.call("isSound");
        }
    }
}
