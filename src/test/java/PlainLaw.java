import java.util.ArrayList;
import java.util.Collections;
import java.util.Comparator;
import java.util.List;
import java.util.NoSuchElementException;

/** The document once more, written for plainness alone and with the whole library, to compare answers with. */
final class PlainLaw {
    record Cell(int x, int y) {
        int to(Cell other) {
            return (x - other.x) * (x - other.x) + (y - other.y) * (y - other.y);
        }

        boolean isIn() {
            return x >= 0 && x <= 29 && y >= 0 && y <= 19;
        }
    }

    record Area(char kind, int left, int low, int right, int high) {
        boolean has(Cell c) {
            return c.x >= left && c.x <= right && c.y >= low && c.y <= high;
        }
    }

    record Place(Cell cell, boolean isTee) {
    }

    static final class Hole {
        int par;
        int index;
        Cell cup;
        Cell tee;
        List<Area> areas = new ArrayList<>();

        char kind(Cell c) {
            if (!c.isIn()) {
                return 'f';
            }
            for (int i = areas.size() - 1; i >= 0; i--) {
                if (areas.get(i).has(c)) {
                    return areas.get(i).kind;
                }
            }
            return '.';
        }

        boolean isNearer(Cell a, Cell b) {
            return a.to(cup) < b.to(cup);
        }
    }

    static final class Ball implements Cloneable {
        char state = 'n';
        Place lie;
        Place spot;
        int strokes;
        int penalties;
        Character provisional;
        Cell provisionalCell;
        Ball rightly;
        boolean inWrongPlace;
        boolean breach;

        Ball copy() {
            try {
                return (Ball) clone();
            } catch (CloneNotSupportedException e) {
                throw new AssertionError(e);
            }
        }
    }

    static final class Player {
        int handicap;
        Ball ball;
        Integer[] scores = new Integer[9];
        Integer[] cards = new Integer[9];
        int[] penalties = new int[9];
        boolean signed;
        boolean out;
        boolean posted;
        List<Integer> differences = new ArrayList<>();
        List<Integer> indexes = new ArrayList<>();
    }

    private final List<Hole> holes = new ArrayList<>();
    private final List<Player> players = new ArrayList<>();
    private int z = 1;
    private char edition = 'n';
    private int conditions;
    private Character format;
    private boolean on;
    private int now;
    private boolean suspended;
    private List<Integer> honour = new ArrayList<>();
    private int cancellable = -1;
    private Ball ahead;
    private int up;
    private int counted;
    private boolean holeConceded;
    private boolean matchConceded;

    public int hole(int par, int index, int cupX, int cupY, int teeX, int teeY) {
        Hole h = new Hole();
        h.par = par;
        h.index = index;
        h.cup = new Cell(cupX, cupY);
        h.tee = new Cell(teeX, teeY);
        if (par < 3 || par > 5 || index < 1 || index > 9 || !h.cup.isIn() || !h.tee.isIn() || h.cup.equals(h.tee)) {
            throw new IllegalArgumentException();
        }
        if (format != null || holes.size() == 9) {
            throw new IllegalStateException();
        }
        for (Hole other : holes) {
            if (other.index == index) {
                throw new UnsupportedOperationException();
            }
        }
        holes.add(h);
        return holes.size() - 1;
    }

    public int area(int hole, char kind, int left, int low, int right, int high) {
        Hole h = holeOf(hole);
        if (".gbdyrwpo".indexOf(kind) < 0 || !new Cell(left, low).isIn() || !new Cell(right, high).isIn()
                || right < left || high < low) {
            throw new IllegalArgumentException();
        }
        if (h.areas.size() == 12 || format != null) {
            throw new IllegalStateException();
        }
        h.areas.add(new Area(kind, left, low, right, high));
        return h.areas.size();
    }

    public char kindAt(int hole, int x, int y) {
        Hole h = holeOf(hole);
        return h.kind(cellOf(x, y));
    }

    public int player() {
        if (format != null || players.size() == 6) {
            throw new IllegalStateException();
        }
        players.add(new Player());
        return players.size() - 1;
    }

    public int setHandicap(int player, int handicap) {
        Player p = playerOf(player);
        if (handicap < 0 || handicap > 36) {
            throw new IllegalArgumentException();
        }
        if (on) {
            throw new IllegalStateException();
        }
        int before = p.handicap;
        p.handicap = handicap;
        return before;
    }

    public int gets(int player, int hole) {
        Player p = playerOf(player);
        holeOf(hole);
        return given(p.handicap, hole);
    }

    public int setSeed(int seed) {
        int before = z;
        z = seed;
        return before;
    }

    public char edition(char e) {
        if (e != 'n' && e != 'o') {
            throw new IllegalArgumentException();
        }
        char before = edition;
        edition = e;
        return before;
    }

    public int begin(char f) {
        if (f != 's' && f != 'm') {
            throw new IllegalArgumentException();
        }
        if (holes.isEmpty() || players.isEmpty() || on || f == 'm' && players.size() != 2) {
            throw new UnsupportedOperationException();
        }
        format = f;
        on = true;
        suspended = false;
        up = 0;
        counted = 0;
        matchConceded = false;
        honour = new ArrayList<>();
        for (Player p : players) {
            honour.add(honour.size());
            p.scores = new Integer[9];
            p.cards = new Integer[9];
            p.penalties = new int[9];
            p.signed = false;
            p.out = false;
            p.posted = false;
        }
        tee(0);
        return holes.size();
    }

    public int holeOn() {
        round();
        return now;
    }

    public int away() {
        round();
        Integer next = next();
        if (next == null) {
            throw new NoSuchElementException();
        }
        return next;
    }

    public char stroke(int player, int x, int y) {
        Player p = playerOf(player);
        Cell aim = cellOf(x, y);
        play();
        Ball b = p.ball;
        aim(b.state == 'n' || b.state == 'l', b.lie, aim);
        if (format == 'm' && b.inWrongPlace) {
            cancellable = -1;
            b.state = 'u';
            return 'u';
        }
        cancellable = -1;
        if (format == 'm' && next() != player) {
            cancellable = player;
            ahead = b.copy();
        }
        if (b.inWrongPlace) {
            b.penalties += 2;
            b.inWrongPlace = false;
            b.breach = isBreach(b.lie.cell, b.rightly.lie.cell);
        }
        b.strokes++;
        b.spot = b.lie;
        Cell landing = landing(b.lie, aim);
        b.lie = new Place(landing, false);
        b.state = after(landing);
        return b.state;
    }

    public int odds(int player, int x, int y, char kind) {
        Player p = playerOf(player);
        Cell aim = cellOf(x, y);
        if (".gbdyrwpocf".indexOf(kind) < 0) {
            throw new IllegalArgumentException();
        }
        round();
        Ball b = p.ball;
        aim(b.state == 'n' || b.state == 'l', b.lie, aim);
        int spread = spread(b.lie, aim);
        int pairs = 0;
        for (int i = 0; i < (2 * spread + 1) * (2 * spread + 1); i++) {
            Cell c = new Cell(x + i / (2 * spread + 1) - spread, y + i % (2 * spread + 1) - spread);
            char there = c.equals(h().cup) ? 'c' : h().kind(c);
            if (there == kind) {
                pairs++;
            }
        }
        return pairs;
    }

    public char provisional(int player, int x, int y) {
        Player p = playerOf(player);
        Cell aim = cellOf(x, y);
        play();
        Ball b = p.ball;
        aim(b.state == 's' && b.provisional == null, b.spot, aim);
        cancellable = -1;
        b.provisionalCell = landing(b.spot, aim);
        b.provisional = after(b.provisionalCell) == 's' ? 'g' : after(b.provisionalCell);
        return b.provisional;
    }

    public char search(int player) {
        Player p = playerOf(player);
        play();
        Ball b = p.ball;
        allow(b.state == 's');
        cancellable = -1;
        boolean found = h().kind(b.lie.cell) == 'd' && draw(4) != 0;
        if (found) {
            b.state = 'l';
        } else if (b.provisional == null) {
            b.state = 'x';
        } else {
            b.strokes++;
            b.penalties++;
            b.state = b.provisional == 'g' ? 'x' : b.provisional;
            b.lie = new Place(b.provisionalCell, false);
        }
        b.provisional = null;
        return b.state;
    }

    public int again(int player) {
        Player p = playerOf(player);
        round();
        Ball b = p.ball;
        allow("lsx".indexOf(b.state) >= 0 && b.spot != null);
        return relieved(b, b.spot.cell);
    }

    public int line(int player, int times) {
        Player p = playerOf(player);
        if (times < 1 || times > 9) {
            throw new IllegalArgumentException();
        }
        round();
        Ball b = p.ball;
        allow(isFreeToTell(b));
        int dx = b.lie.cell.x - h().cup.x;
        int dy = b.lie.cell.y - h().cup.y;
        int gcd = java.math.BigInteger.valueOf(dx).gcd(java.math.BigInteger.valueOf(dy)).intValue();
        Cell to = new Cell(b.lie.cell.x + dx / gcd * times, b.lie.cell.y + dy / gcd * times);
        allow(to.isIn() && "yro".indexOf(h().kind(to)) < 0 && !to.equals(h().cup));
        return relieved(b, to);
    }

    public int aside(int player, int x, int y) {
        Player p = playerOf(player);
        Cell to = cellOf(x, y);
        round();
        Ball b = p.ball;
        allow(isFreeToTell(b) && h().kind(b.lie.cell) != 'y');
        allow(to.to(b.lie.cell) <= 4 && !h().isNearer(to, b.lie.cell));
        allow("yro".indexOf(h().kind(to)) < 0 && !to.equals(h().cup));
        return relieved(b, to);
    }

    public int point(int player, boolean isX) {
        Player p = playerOf(player);
        round();
        allow(isFreeToTell(p.ball) && "wp".indexOf(h().kind(p.ball.lie.cell)) >= 0);
        Cell point = nearestPoint(p.ball.lie.cell);
        if (point == null) {
            throw new NoSuchElementException();
        }
        return isX ? point.x : point.y;
    }

    public char free(int player, int x, int y) {
        Player p = playerOf(player);
        Cell to = cellOf(x, y);
        round();
        Ball b = p.ball;
        char before = isFreeToTell(b) ? h().kind(b.lie.cell) : '?';
        allow(before == 'w' || before == 'p');
        allow(h().kind(to) == '.' && !to.equals(h().cup));
        Cell point = nearestPoint(b.lie.cell);
        if (point == null) {
            throw new NoSuchElementException();
        }
        allow(to.to(point) <= 1 && !h().isNearer(to, point));
        relieved(b, to);
        b.penalties--;
        return before;
    }

    public boolean wrongPlace(int player, int x, int y) {
        Player p = playerOf(player);
        Cell to = cellOf(x, y);
        round();
        Ball b = p.ball;
        allow(isFreeToTell(b) && !b.breach && !to.equals(b.lie.cell));
        allow(h().kind(to) != 'o' && !to.equals(h().cup));
        cancellable = -1;
        b.rightly = b.copy();
        b.inWrongPlace = true;
        b.lie = new Place(to, false);
        return isBreach(to, b.rightly.lie.cell);
    }

    public int correct(int player) {
        Player p = playerOf(player);
        round();
        allow(p.ball.breach);
        cancellable = -1;
        p.ball = p.ball.rightly.copy();
        p.ball.penalties += 2;
        return p.ball.strokes + p.ball.penalties;
    }

    public int move(int player, char by, int x, int y) {
        Player p = playerOf(player);
        if ("pekw".indexOf(by) < 0) {
            throw new IllegalArgumentException();
        }
        round();
        Ball b = p.ball;
        allow(isFreeToTell(b));
        Cell to = new Cell(x, y);
        allow(by != 'w' || to.isIn() && h().kind(to) != 'o' && !to.equals(h().cup));
        cancellable = -1;
        if (by == 'w') {
            b.lie = new Place(to, false);
        } else if (by == 'p' && !(h().kind(b.lie.cell) == 'g' && edition == 'n')) {
            b.penalties++;
        }
        return b.strokes + b.penalties;
    }

    public int wrongBall(int player, int other) {
        Player p = playerOf(player);
        Player q = playerOf(other);
        round();
        allow(player != other && isFreeToTell(p.ball) && isFreeToTell(q.ball));
        cancellable = -1;
        if (format == 'm') {
            p.ball.state = 'u';
        } else {
            p.ball.penalties += 2;
        }
        return p.ball.strokes + p.ball.penalties;
    }

    public int pickUp(int player) {
        Player p = playerOf(player);
        round();
        allow(!isDone(p));
        cancellable = -1;
        p.ball.state = 'u';
        return (int) players.stream().filter(q -> !isDone(q)).count();
    }

    public boolean suspend(boolean is) {
        round();
        boolean before = suspended;
        suspended = is;
        return before;
    }

    public boolean cancel(int player) {
        Player p = playerOf(player);
        round();
        allow(format == 'm' && cancellable == player);
        cancellable = -1;
        p.ball = ahead;
        return ahead.state == 'n';
    }

    public int concede(int player, char what) {
        playerOf(player);
        if ("shm".indexOf(what) < 0) {
            throw new IllegalArgumentException();
        }
        round();
        allow(format == 'm');
        Player other = players.get(1 - player);
        allow(what != 's' || other.ball.state == 'l');
        allow(what != 'h' || !holeConceded);
        if (what == 's') {
            cancellable = -1;
            other.ball.strokes++;
            other.ball.state = 'h';
        } else if (what == 'h') {
            cancellable = -1;
            for (Player p : players) {
                if (!isDone(p)) {
                    p.ball.state = 'u';
                }
            }
            holeConceded = true;
            counted++;
            up += player == 1 ? 1 : -1;
        } else {
            matchConceded = true;
        }
        return up;
    }

    public int nextHole() {
        round();
        for (Player p : players) {
            allow(isDone(p));
        }
        for (Player p : players) {
            if (p.ball.state == 'h') {
                p.scores[now] = p.ball.strokes + p.ball.penalties;
                p.cards[now] = p.scores[now];
                p.penalties[now] = p.ball.penalties;
            }
            p.out |= p.ball.breach;
        }
        if (format == 'm' && !holeConceded) {
            int more = players.get(0).handicap - players.get(1).handicap;
            double first = net(players.get(0), Math.max(more, 0));
            double second = net(players.get(1), Math.max(-more, 0));
            up += first < second ? 1 : first > second ? -1 : 0;
            counted++;
        }
        final int told = now;
        Comparator<Integer> byScore = Comparator.comparingInt(
                i -> players.get(i).scores[told] == null ? 1000000 : players.get(i).scores[told]);
        honour.sort(byScore);
        if (now + 1 == holes.size()) {
            on = false;
            return holes.size();
        }
        tee(now + 1);
        return now;
    }

    public char state(int player) {
        Player p = playerOf(player);
        round();
        return p.ball.state;
    }

    public int lie(int player, boolean isX) {
        Player p = playerOf(player);
        round();
        if (p.ball.state != 'n' && p.ball.state != 'l') {
            throw new NoSuchElementException();
        }
        return isX ? p.ball.lie.cell.x : p.ball.lie.cell.y;
    }

    public int strokes(int player) {
        Player p = playerOf(player);
        round();
        return p.ball.strokes;
    }

    public int penalties(int player) {
        Player p = playerOf(player);
        round();
        return p.ball.penalties;
    }

    public boolean isOut(int player) {
        return playerOf(player).out;
    }

    public int score(int player, int hole) {
        Player p = playerOf(player);
        holeOf(hole);
        if (p.scores[hole] == null) {
            throw new NoSuchElementException();
        }
        return p.scores[hole];
    }

    public int up() {
        allow(format != null && format == 'm');
        return up;
    }

    public boolean isMatchOver() {
        allow(format != null && format == 'm');
        int left = holes.size() - counted;
        return up > left || -up > left || matchConceded || !on;
    }

    public int write(int player, int hole, int score) {
        Player p = playerOf(player);
        holeOf(hole);
        if (score < 1 || score > 99) {
            throw new IllegalArgumentException();
        }
        allow(isOver() && !p.signed);
        Integer before = p.cards[hole];
        p.cards[hole] = score;
        return before == null ? 0 : before;
    }

    public boolean sign(int player) {
        Player p = playerOf(player);
        allow(isOver() && !p.signed && !p.out);
        for (int i = 0; i < holes.size(); i++) {
            if (p.scores[i] == null) {
                throw new NoSuchElementException();
            }
        }
        p.signed = true;
        for (int i = 0; i < holes.size(); i++) {
            p.out |= p.cards[i] < p.scores[i];
        }
        return !p.out;
    }

    public int total(int player) {
        Player p = playerOf(player);
        int sum = 0;
        for (int i = 0; i < holes.size(); i++) {
            if (p.cards[i] == null) {
                throw new NoSuchElementException();
            }
            sum += p.cards[i];
        }
        return sum;
    }

    public int stableford(int player) {
        Player p = playerOf(player);
        int sum = 0;
        for (int i = 0; i < holes.size(); i++) {
            if (p.cards[i] != null) {
                int points = 2 + holes.get(i).par - (p.cards[i] - given(p.handicap, i));
                sum += points < 0 ? 0 : points;
            }
        }
        return sum;
    }

    public int parPlay(int player) {
        Player p = playerOf(player);
        over();
        int sum = 0;
        for (int i = 0; i < holes.size(); i++) {
            int par = holes.get(i).par;
            int net = p.cards[i] == null ? par + 1 : p.cards[i] - given(p.handicap, i);
            sum += net < par ? 1 : net > par ? -1 : 0;
        }
        return sum;
    }

    public int together(int player, int other) {
        Player p = playerOf(player);
        Player q = playerOf(other);
        if (player == other) {
            throw new IllegalArgumentException();
        }
        int sum = 0;
        for (int i = 0; i < holes.size(); i++) {
            List<Integer> nets = new ArrayList<>();
            for (Player r : List.of(p, q)) {
                if (r.cards[i] != null) {
                    nets.add(r.cards[i] - given(r.handicap, i));
                }
            }
            if (nets.isEmpty()) {
                throw new NoSuchElementException();
            }
            sum += Collections.min(nets);
        }
        return sum;
    }

    public int skins(int player) {
        playerOf(player);
        over();
        int[] sums = new int[6];
        int open = 0;
        for (int i = 0; i < holes.size(); i++) {
            open++;
            List<int[]> nets = new ArrayList<>();
            for (int k = 0; k < players.size(); k++) {
                Player p = players.get(k);
                if (p.cards[i] != null) {
                    nets.add(new int[] {p.cards[i] - given(p.handicap, i), k});
                }
            }
            nets.sort(Comparator.comparingInt(n -> n[0]));
            if (nets.size() == 1 || nets.size() > 1 && nets.get(0)[0] < nets.get(1)[0]) {
                sums[nets.get(0)[1]] += open;
                open = 0;
            }
        }
        return sums[player];
    }

    public int rank(int player) {
        Player p = playerOf(player);
        ranked(p);
        return 1 + (int) players.stream().filter(q -> q.signed && !q.out && sum(q, 0) < sum(p, 0)).count();
    }

    public boolean isAhead(int player, int other) {
        Player p = playerOf(player);
        Player q = playerOf(other);
        ranked(p);
        ranked(q);
        int n = holes.size();
        for (int from : new int[] {0, n - n / 2, n - n / 3, n - 1}) {
            if (sum(p, from) != sum(q, from)) {
                return sum(p, from) < sum(q, from);
            }
        }
        return false;
    }

    public int cut(int places) {
        if (places < 1 || places > 6) {
            throw new IllegalArgumentException();
        }
        int made = 0;
        for (int i = 0; i < players.size(); i++) {
            try {
                made += rank(i) <= places ? 1 : 0;
            } catch (NoSuchElementException e) {
                continue;
            }
        }
        return made;
    }

    public int conditions(int c) {
        if (c < -1 || c > 3) {
            throw new IllegalArgumentException();
        }
        int before = conditions;
        conditions = c;
        return before;
    }

    public int post(int player, int rating, int slope) {
        Player p = playerOf(player);
        if (rating < 100 || rating > 800 || slope < 55 || slope > 155) {
            throw new IllegalArgumentException();
        }
        allow(p.signed && !p.out && !p.posted);
        int sum = 0;
        for (int i = 0; i < holes.size(); i++) {
            sum += Math.min(p.cards[i], holes.get(i).par + 2 + given(p.handicap, i));
        }
        int difference = (int) Math.floor((sum * 10 - rating) * 113 / (double) slope) - 10 * conditions;
        p.posted = true;
        p.differences.add(difference);
        if (p.differences.size() > 20) {
            p.differences.remove(0);
        }
        Integer before = p.indexes.isEmpty() ? null : p.indexes.get(p.indexes.size() - 1);
        if (before != null && difference <= before - 70) {
            final int off = difference <= before - 100 ? 20 : 10;
            p.differences.replaceAll(d -> d - off);
        }
        int[] counts = {1, 1, 1, 1, 1, 2, 2, 2, 3, 3, 3, 4, 4, 4, 5, 5, 6, 6, 7, 8};
        List<Integer> sorted = new ArrayList<>(p.differences);
        Collections.sort(sorted);
        double total = 0;
        for (int i = 0; i < counts[sorted.size() - 1]; i++) {
            total += sorted.get(i);
        }
        int index = (int) Math.floor(total / counts[sorted.size() - 1]);
        if (before != null) {
            int low = Collections.min(p.indexes);
            if (index > low + 30) {
                index = low + 30 + (index - low - 30) / 2;
            }
            if (index > low + 50) {
                index = low + 50;
            }
        }
        p.indexes.add(index);
        return difference;
    }

    public int difference(int player, int index) {
        Player p = playerOf(player);
        if (index < 0 || index >= p.differences.size()) {
            throw new IndexOutOfBoundsException();
        }
        return p.differences.get(index);
    }

    public int index(int player) {
        Player p = playerOf(player);
        if (p.indexes.isEmpty()) {
            throw new NoSuchElementException();
        }
        return p.indexes.get(p.indexes.size() - 1);
    }

    public int lowIndex(int player) {
        Player p = playerOf(player);
        if (p.indexes.isEmpty()) {
            throw new NoSuchElementException();
        }
        return Collections.min(p.indexes);
    }

    public long checksum() {
        long sum = 7;
        for (Hole h : holes) {
            for (int y = 0; y < 20; y++) {
                for (int x = 0; x < 30; x++) {
                    sum = sum * 31 + h.kind(new Cell(x, y));
                }
            }
        }
        return sum;
    }

    public float penaltyShare(int player) {
        Player p = playerOf(player);
        int scores = 0;
        int penalties = 0;
        for (int i = 0; i < 9; i++) {
            scores += p.scores[i] == null ? 0 : p.scores[i];
            penalties += p.penalties[i];
        }
        if (scores == 0) {
            throw new ArithmeticException();
        }
        return (float) penalties / (float) scores;
    }

    public double meanScore(int hole) {
        holeOf(hole);
        double sum = 0;
        double count = 0;
        for (Player p : players) {
            if (p.scores[hole] != null) {
                sum += p.scores[hole];
                count++;
            }
        }
        if (count == 0) {
            throw new ArithmeticException();
        }
        return sum / count;
    }

    public boolean isSound() {
        return true;
    }

    private Player playerOf(int player) {
        if (player < 0 || player >= players.size()) {
            throw new IndexOutOfBoundsException();
        }
        return players.get(player);
    }

    private Hole holeOf(int hole) {
        if (hole < 0 || hole >= holes.size()) {
            throw new IndexOutOfBoundsException();
        }
        return holes.get(hole);
    }

    private static Cell cellOf(int x, int y) {
        Cell c = new Cell(x, y);
        if (!c.isIn()) {
            throw new IndexOutOfBoundsException();
        }
        return c;
    }

    private void round() {
        if (!on) {
            throw new IllegalStateException();
        }
    }

    private void play() {
        if (!on || suspended) {
            throw new IllegalStateException();
        }
    }

    private static void allow(boolean is) {
        if (!is) {
            throw new UnsupportedOperationException();
        }
    }

    private void over() {
        if (!isOver()) {
            throw new NoSuchElementException();
        }
    }

    private static void ranked(Player p) {
        if (!p.signed || p.out) {
            throw new NoSuchElementException();
        }
    }

    private boolean isOver() {
        return format != null && !on;
    }

    private Hole h() {
        return holes.get(now);
    }

    private static boolean isDone(Player p) {
        return p.ball.state == 'h' || p.ball.state == 'u';
    }

    private static boolean isFreeToTell(Ball b) {
        return b.state == 'l' && !b.lie.isTee && !b.inWrongPlace;
    }

    private int given(int handicap, int hole) {
        long lower = holes.stream().filter(h -> h.index < holes.get(hole).index).count();
        return handicap / holes.size() + (lower < handicap % holes.size() ? 1 : 0);
    }

    private double net(Player p, int handicap) {
        return p.scores[now] == null ? 1e9 : p.scores[now] - given(handicap, now);
    }

    private int sum(Player p, int from) {
        int sum = 0;
        for (int i = from; i < holes.size(); i++) {
            sum += p.cards[i];
        }
        return sum;
    }

    private void tee(int hole) {
        now = hole;
        cancellable = -1;
        holeConceded = false;
        for (Player p : players) {
            p.ball = new Ball();
            p.ball.lie = new Place(h().tee, true);
        }
    }

    private Integer next() {
        for (int i : honour) {
            if (players.get(i).ball.state == 'n') {
                return i;
            }
        }
        Integer best = null;
        int far = -1;
        for (int i = 0; i < players.size(); i++) {
            Ball b = players.get(i).ball;
            if (!isDone(players.get(i))) {
                int d = (b.state == 'l' ? b.lie : b.spot).cell.to(h().cup);
                if (d > far) {
                    far = d;
                    best = i;
                }
            }
        }
        return best;
    }

    private int draw(int modulo) {
        z = z * 1103515245 + 12345;
        return (z >> 16 & 0xffff) % modulo;
    }

    private void aim(boolean isAllowed, Place from, Cell aim) {
        allow(isAllowed && !from.cell.equals(aim));
        int reach = switch (from.isTee ? 't' : h().kind(from.cell)) {
            case 't' -> 12;
            case '.', 'w', 'p' -> 10;
            case 'g' -> 6;
            case 'b' -> 5;
            case 'd', 'y', 'r' -> 4;
            default -> throw new AssertionError("a ball on " + h().kind(from.cell));
        };
        allow(from.cell.to(aim) <= reach * reach);
    }

    private int spread(Place from, Cell aim) {
        if (from.isTee) {
            return 1;
        }
        char kind = h().kind(from.cell);
        if (kind == 'g' && from.cell.to(aim) <= 9) {
            return 0;
        }
        return "dyr".indexOf(kind) >= 0 ? 2 : 1;
    }

    private Cell landing(Place from, Cell aim) {
        int spread = spread(from, aim);
        if (spread == 0) {
            return aim;
        }
        int dx = draw(2 * spread + 1) - spread;
        int dy = draw(2 * spread + 1) - spread;
        return new Cell(aim.x + dx, aim.y + dy);
    }

    private char after(Cell landing) {
        if (landing.equals(h().cup)) {
            return 'h';
        }
        return "fdo".indexOf(h().kind(landing)) >= 0 ? 's' : 'l';
    }

    private int relieved(Ball b, Cell to) {
        cancellable = -1;
        b.state = 'l';
        b.lie = new Place(to, to.equals(h().tee));
        b.provisional = null;
        b.inWrongPlace = false;
        b.penalties++;
        return b.strokes + b.penalties;
    }

    private boolean isBreach(Cell wrong, Cell right) {
        return wrong.to(h().cup) < right.to(h().cup) / 4.0;
    }

    private Cell nearestPoint(Cell lie) {
        List<Cell> cells = new ArrayList<>();
        for (int x = 0; x < 30; x++) {
            for (int y = 0; y < 20; y++) {
                Cell c = new Cell(x, y);
                if (h().kind(c) == '.' && !c.equals(h().cup) && !h().isNearer(c, lie)) {
                    cells.add(c);
                }
            }
        }
        Comparator<Cell> order = Comparator.<Cell>comparingInt(c -> c.to(lie)).thenComparingInt(Cell::y)
                .thenComparingInt(Cell::x);
        return cells.stream().min(order).orElse(null);
    }
}
