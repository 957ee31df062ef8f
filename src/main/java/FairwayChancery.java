import java.util.NoSuchElementException;

/** A round of golf by its laws; ../shared/DOC.md says what each call does. */
public final class FairwayChancery {
    private static final int WIDTH = 30;
    private static final int HEIGHT = 20;
    private static final int CELLS = WIDTH * HEIGHT;
    private static final int MOST_HOLES = 9;
    private static final int MOST_AREAS = 12;
    private static final int MOST_PLAYERS = 6;
    private static final int MOST_DIFFERENCES = 20;
    private static final int MOST_HANDICAP = 36;
    private static final int MOST_WRITTEN = 99;
    private static final int MOST_TIMES = 9;
    private static final int FARTHEST = (WIDTH - 1) * (WIDTH - 1) + (HEIGHT - 1) * (HEIGHT - 1);

    /** Stands for no cell, and for no player. */
    private static final int NONE = -1;

    private static final char GROUND = '.';
    private static final char CUP = 'c';
    private static final char OFF = 'f';

    private static final char NOT_BEGUN = 'n';
    private static final char LIES = 'l';
    private static final char SOUGHT = 's';
    private static final char LOST = 'x';
    private static final char HOLED = 'h';
    private static final char PICKED_UP = 'u';

    private static final char NO_BALL = '-';
    private static final char GONE = 'g';

    private static final char STROKE_PLAY = 's';
    private static final char MATCH_PLAY = 'm';
    private static final char NEW_EDITION = 'n';
    private static final char OLD_EDITION = 'o';

    /** One hole of the course, with the kind of each of its cells. */
    private static final class Hole {
        final char[] kinds;
        int par;
        int index;
        int cup;
        int tee;
        int areas;

        Hole() {
            kinds = new char[CELLS];
            for (int cell = 0; cell < CELLS; cell++) {
                kinds[cell] = GROUND;
            }
        }

        void paint(char kind, int left, int low, int right, int high) {
            for (int y = low; y <= high; y++) {
                for (int x = left; x <= right; x++) {
                    if (isCell(x, y)) {
                        kinds[cellAt(x, y)] = kind;
                    }
                }
            }
            areas++;
        }

        char kindOf(int cell) {
            return cell >= 0 && cell < CELLS ? kinds[cell] : OFF;
        }

        /** The cup hides the kind of its cell: a ball there is holed, whatever lies below. */
        char outcomeAt(int cell) {
            return cell == cup ? CUP : kindOf(cell);
        }

        int reachFrom(int cell, boolean isTee) {
            if (isTee) {
                return 12;
            }
            switch (kindOf(cell)) {
                case 'g':
                    return 6;
                case 'b':
                    return 5;
                case 'd':
                case 'y':
                case 'r':
                    return 4;
                default:
                    return 10;
            }
        }

        int spreadFrom(int cell, boolean isTee, int aim) {
            if (isTee) {
                return 1;
            }
            switch (kindOf(cell)) {
                case 'g':
                    return distance(cell, aim) <= 9 ? 0 : 1;
                case 'd':
                case 'y':
                case 'r':
                    return 2;
                default:
                    return 1;
            }
        }

        boolean isAim(int cell, boolean isTee, int aim) {
            int reach = reachFrom(cell, isTee);
            return aim != cell && distance(cell, aim) <= reach * reach;
        }

        boolean isNearerCup(int cell, int other) {
            return distance(cell, cup) < distance(other, cup);
        }

        boolean isSeriousBreach(int wrong, int right) {
            return 4 * distance(wrong, cup) < distance(right, cup);
        }

        /** Where wind, or a wrong place, can bring a ball. */
        boolean isOpen(int cell) {
            char outcome = outcomeAt(cell);
            return outcome != CUP && outcome != OFF && outcome != 'o';
        }

        /** Where relief with a penalty can bring a ball. */
        boolean isOpenForPenalty(int cell) {
            char kind = kindOf(cell);
            return isOpen(cell) && kind != 'y' && kind != 'r';
        }

        int cellOnLine(int lie, int times) {
            int dx = lie % WIDTH - cup % WIDTH;
            int dy = lie / WIDTH - cup / WIDTH;
            int divisor = commonDivisor(dx, dy);
            if (divisor < 1) {
                return NONE;
            }
            int x = lie % WIDTH + times * (dx / divisor);
            int y = lie / WIDTH + times * (dy / divisor);
            return isCell(x, y) ? cellAt(x, y) : NONE;
        }

        boolean isAside(int lie, int cell) {
            return kindOf(lie) != 'y' && distance(lie, cell) <= 4 && !isNearerCup(cell, lie) && isOpenForPenalty(cell);
        }

        boolean isFreeGround(int cell) {
            return kindOf(cell) == GROUND && cell != cup;
        }

        /** Whether a cell is ground that is no nearer the cup than another one. */
        boolean isFreeFrom(int lie, int cell) {
            return isFreeGround(cell) && distance(cell, cup) >= distance(lie, cup);
        }

        /** Cells are looked at by y, then x, so that of several the first one stays. */
        int nearestPoint(int lie) {
            int best = NONE;
            int least = 0;
            for (int cell = 0; cell < CELLS; cell++) {
                if (isFreeFrom(lie, cell)) {
                    int far = distance(lie, cell);
                    if (best == NONE || far < least) {
                        best = cell;
                        least = far;
                    }
                }
            }
            return best;
        }

        /** The same point in another way, for isSound. */
        int pointByRisingDistances(int lie) {
            for (int far = 0; far <= FARTHEST; far++) {
                int found = pointAtDistance(lie, far);
                if (found != NONE) {
                    return found;
                }
            }
            return NONE;
        }

        int pointAtDistance(int lie, int far) {
            int dx = 0;
            for (int y = 0; y < HEIGHT; y++) {
                int dy = y - lie / WIDTH;
                int rest = far - dy * dy;
                if (rest >= 0) {
                    dx = rootFrom(dx, rest);
                    int found = dx * dx == rest ? pointInRow(lie, dx, y) : NONE;
                    if (found != NONE) {
                        return found;
                    }
                }
            }
            return NONE;
        }

        int pointInRow(int lie, int dx, int y) {
            int x = lie % WIDTH;
            if (isCell(x - dx, y) && isFreeFrom(lie, cellAt(x - dx, y))) {
                return cellAt(x - dx, y);
            }
            if (isCell(x + dx, y) && isFreeFrom(lie, cellAt(x + dx, y))) {
                return cellAt(x + dx, y);
            }
            return NONE;
        }
    }

    /** The ball of a player on the hole that is on. */
    private static final class Ball {
        char state;
        int cell;
        boolean isOnTee;
        int spot;
        boolean isSpotTee;
        int strokes;
        int penalties;
        char provisional;
        int provisionalCell;
        boolean isInWrongPlace;
        boolean isBreach;
        int rightCell;
        int rightSpot;
        boolean isRightSpotTee;
        int rightStrokes;
        int rightPenalties;

        void startAt(int tee) {
            state = NOT_BEGUN;
            cell = tee;
            isOnTee = true;
            spot = tee;
            isSpotTee = true;
            strokes = 0;
            penalties = 0;
            provisional = NO_BALL;
            isInWrongPlace = false;
            isBreach = false;
        }

        void copyFrom(Ball other) {
            state = other.state;
            cell = other.cell;
            isOnTee = other.isOnTee;
            spot = other.spot;
            isSpotTee = other.isSpotTee;
            strokes = other.strokes;
            penalties = other.penalties;
            provisional = other.provisional;
            provisionalCell = other.provisionalCell;
            isInWrongPlace = other.isInWrongPlace;
            isBreach = other.isBreach;
            rightCell = other.rightCell;
            rightSpot = other.rightSpot;
            isRightSpotTee = other.isRightSpotTee;
            rightStrokes = other.rightStrokes;
            rightPenalties = other.rightPenalties;
        }

        boolean isDone() {
            return state == HOLED || state == PICKED_UP;
        }

        boolean isPlayable() {
            return state == NOT_BEGUN || state == LIES;
        }

        /** Whether more than a stroke and "again" can be told of it. */
        boolean isAtRest() {
            return state == LIES && !isOnTee && !isInWrongPlace;
        }

        int scoreSoFar() {
            return strokes + penalties;
        }

        int cellForOrder() {
            return isPlayable() ? cell : spot;
        }

        void strike(int landing, char then) {
            spot = cell;
            isSpotTee = isOnTee;
            strokes++;
            cell = landing;
            isOnTee = false;
            state = then;
        }

        void putWrongly(int wrong) {
            rightCell = cell;
            rightSpot = spot;
            isRightSpotTee = isSpotTee;
            rightStrokes = strokes;
            rightPenalties = penalties;
            cell = wrong;
            isInWrongPlace = true;
        }

        void playWrongly(boolean isSerious) {
            penalties += 2;
            isInWrongPlace = false;
            isBreach = isSerious;
        }

        void putRightly() {
            state = LIES;
            cell = rightCell;
            isOnTee = false;
            spot = rightSpot;
            isSpotTee = isRightSpotTee;
            strokes = rightStrokes;
            penalties = rightPenalties + 2;
            provisional = NO_BALL;
            isInWrongPlace = false;
            isBreach = false;
        }

        /** Only relief can bring a ball onto the tee again; a stroke or wind to that cell does not. */
        void putByRelief(int where, int tee) {
            state = LIES;
            cell = where;
            isOnTee = where == tee;
            provisional = NO_BALL;
            isInWrongPlace = false;
        }

        void find() {
            state = LIES;
            provisional = NO_BALL;
        }

        void lose() {
            if (provisional == NO_BALL) {
                state = LOST;
                return;
            }
            strokes++;
            penalties++;
            state = provisional == GONE ? LOST : provisional;
            cell = provisionalCell;
            provisional = NO_BALL;
        }
    }

    /** What a round tells and writes of a player; 0 stands for no score. */
    private static final class Card {
        final int[] scores;
        final int[] penalties;
        final int[] written;
        boolean isSigned;
        boolean isOut;
        boolean isPosted;

        Card() {
            scores = new int[MOST_HOLES];
            penalties = new int[MOST_HOLES];
            written = new int[MOST_HOLES];
        }

        void wipe() {
            for (int i = 0; i < MOST_HOLES; i++) {
                scores[i] = 0;
                penalties[i] = 0;
                written[i] = 0;
            }
            isSigned = false;
            isOut = false;
            isPosted = false;
        }

        void tell(int hole, Ball ball) {
            if (hole < 0 || hole >= MOST_HOLES) {
                return;
            }
            boolean isScore = ball.state == HOLED;
            scores[hole] = isScore ? ball.scoreSoFar() : 0;
            penalties[hole] = isScore ? ball.penalties : 0;
            written[hole] = scores[hole];
            if (ball.isBreach) {
                isOut = true;
            }
        }

        int scoreOn(int hole) {
            return hole >= 0 && hole < MOST_HOLES ? scores[hole] : 0;
        }

        int writtenOn(int hole) {
            return hole >= 0 && hole < MOST_HOLES ? written[hole] : 0;
        }

        boolean isRanked() {
            return isSigned && !isOut;
        }

        boolean isScoredOn(int holes) {
            for (int i = 0; i < holes; i++) {
                if (scoreOn(i) == 0) {
                    return false;
                }
            }
            return true;
        }

        boolean isWrittenOn(int holes) {
            for (int i = 0; i < holes; i++) {
                if (writtenOn(i) == 0) {
                    return false;
                }
            }
            return true;
        }

        boolean isTooLow(int holes) {
            for (int i = 0; i < holes; i++) {
                if (writtenOn(i) < scoreOn(i)) {
                    return true;
                }
            }
            return false;
        }

        int sumFrom(int first, int end) {
            int sum = 0;
            for (int i = first; i < end; i++) {
                sum += writtenOn(i);
            }
            return sum;
        }
    }

    /** The differences of a player that are kept, oldest first, and the index that follows them. */
    private static final class Form {
        final int[] differences;
        int count;
        int index;
        int low;

        Form() {
            differences = new int[MOST_DIFFERENCES];
        }

        int differenceAt(int i) {
            return i >= 0 && i < MOST_DIFFERENCES ? differences[i] : 0;
        }

        void add(int difference) {
            boolean isFirst = count == 0;
            keep(difference);
            if (isFirst) {
                index = mean();
                low = index;
                return;
            }
            takeOff(offFor(difference));
            index = bounded(mean());
            low = Math.min(low, index);
        }

        void keep(int difference) {
            if (count >= MOST_DIFFERENCES) {
                for (int i = 1; i < MOST_DIFFERENCES; i++) {
                    differences[i - 1] = differences[i];
                }
                count = MOST_DIFFERENCES - 1;
            }
            if (count >= 0 && count < MOST_DIFFERENCES) {
                differences[count] = difference;
                count++;
            }
        }

        int offFor(int difference) {
            if (difference <= index - 100) {
                return 20;
            }
            return difference <= index - 70 ? 10 : 0;
        }

        void takeOff(int off) {
            for (int i = 0; i < count && i < MOST_DIFFERENCES; i++) {
                differences[i] -= off;
            }
        }

        int howManyCount() {
            if (count >= 19) {
                return count - 12;
            }
            if (count >= 15) {
                return count >= 17 ? 6 : 5;
            }
            if (count >= 9) {
                return count >= 12 ? 4 : 3;
            }
            return count >= 6 ? 2 : 1;
        }

        int mean() {
            int lowest = howManyCount();
            if (lowest < 1) {
                return 0;
            }
            int sum = 0;
            for (int i = 0; i < count; i++) {
                if (howManyAhead(i) < lowest) {
                    sum += differenceAt(i);
                }
            }
            return Math.floorDiv(sum, lowest);
        }

        /** Of like differences the older one is ahead, so that no two share a place. */
        int howManyAhead(int which) {
            int ahead = 0;
            for (int i = 0; i < count; i++) {
                int order = Integer.compare(differenceAt(i), differenceAt(which));
                if (order < 0 || order == 0 && i < which) {
                    ahead++;
                }
            }
            return ahead;
        }

        int bounded(int mean) {
            int above = mean - low;
            if (above <= 30) {
                return mean;
            }
            return low + Math.min(50, 30 + (above - 30) / 2);
        }

        boolean isLawful() {
            return count == 0 || index <= bounded(mean()) && index >= low;
        }
    }

    /** A player with all that is told of one; made ahead, so that no call has to make it. */
    private static final class Player {
        final Ball ball;
        final Card card;
        final Form form;
        int handicap;

        Player() {
            ball = new Ball();
            card = new Card();
            form = new Form();
        }
    }

    /** A match, and the stroke out of order that can be cancelled in it. */
    private static final class Match {
        final Ball ahead;
        int outOfOrder;
        int upBy;
        int counted;
        boolean isHoleConceded;
        boolean isConceded;

        Match() {
            ahead = new Ball();
            outOfOrder = NONE;
        }

        void restart() {
            upBy = 0;
            counted = 0;
            isConceded = false;
        }

        void forgetHole() {
            outOfOrder = NONE;
            isHoleConceded = false;
        }

        /** A hole that was conceded has counted at once. */
        void count(int winsOfFirst) {
            if (!isHoleConceded) {
                upBy += winsOfFirst;
                counted++;
            }
        }
    }

    private final Hole[] holes;
    private final Player[] players;
    private final int[] honour;
    private final Match match;
    private int holeCount;
    private int playerCount;
    private int seed;
    private char law;
    private int weather;
    private char format;
    private boolean isBegun;
    private boolean isOn;
    private boolean isSuspended;
    private int holeNow;

    public FairwayChancery() {
        holes = new Hole[MOST_HOLES];
        for (int i = 0; i < MOST_HOLES; i++) {
            holes[i] = new Hole();
        }
        players = new Player[MOST_PLAYERS];
        for (int i = 0; i < MOST_PLAYERS; i++) {
            players[i] = new Player();
        }
        honour = new int[MOST_PLAYERS];
        match = new Match();
        seed = 1;
        law = NEW_EDITION;
        format = STROKE_PLAY;
    }

    // The course and the players.

    public int hole(int par, int index, int cupX, int cupY, int teeX, int teeY)
            throws IllegalArgumentException, IllegalStateException, UnsupportedOperationException {
        if (par < 3 || par > 5 || index < 1 || index > MOST_HOLES || !isCell(cupX, cupY) || !isCell(teeX, teeY)) {
            throw new IllegalArgumentException("a number is out of range");
        }
        if (cupX == teeX && cupY == teeY) {
            throw new IllegalArgumentException("the cup and the tee are the same cell");
        }
        if (isBegun || holeCount >= MOST_HOLES) {
            throw new IllegalStateException("no hole can be added");
        }
        if (hasIndex(index)) {
            throw new UnsupportedOperationException("another hole has this index");
        }
        Hole hole = holes[holeCount];
        hole.par = par;
        hole.index = index;
        hole.cup = cellAt(cupX, cupY);
        hole.tee = cellAt(teeX, teeY);
        holeCount++;
        return holeCount - 1;
    }

    public int area(int hole, char kind, int left, int low, int right, int high)
            throws IndexOutOfBoundsException, IllegalArgumentException, IllegalStateException {
        needHole(hole);
        if (!isKind(kind) || !isCell(left, low) || !isCell(right, high) || right < left || high < low) {
            throw new IllegalArgumentException("no such kind or rectangle");
        }
        if (isBegun || holes[hole].areas >= MOST_AREAS) {
            throw new IllegalStateException("no area can be added");
        }
        holes[hole].paint(kind, left, low, right, high);
        return holes[hole].areas;
    }

    public char kindAt(int hole, int x, int y) throws IndexOutOfBoundsException {
        needHole(hole);
        needCell(x, y);
        return holes[hole].kindOf(cellAt(x, y));
    }

    public int player() throws IllegalStateException {
        if (isBegun || playerCount >= MOST_PLAYERS) {
            throw new IllegalStateException("no player can be added");
        }
        playerCount++;
        return playerCount - 1;
    }

    public int setHandicap(int player, int handicap)
            throws IndexOutOfBoundsException, IllegalArgumentException, IllegalStateException {
        needPlayer(player);
        if (handicap < 0 || handicap > MOST_HANDICAP) {
            throw new IllegalArgumentException("the handicap is out of range");
        }
        if (isOn) {
            throw new IllegalStateException("a round is on");
        }
        int before = players[player].handicap;
        players[player].handicap = handicap;
        return before;
    }

    public int gets(int player, int hole) throws IndexOutOfBoundsException {
        needPlayer(player);
        needHole(hole);
        return strokesGiven(players[player].handicap, hole);
    }

    public int setSeed(int seed) {
        int before = this.seed;
        this.seed = seed;
        return before;
    }

    public char edition(char edition) throws IllegalArgumentException {
        if (edition != NEW_EDITION && edition != OLD_EDITION) {
            throw new IllegalArgumentException("no such edition");
        }
        char before = law;
        law = edition;
        return before;
    }

    // A round, and the order of play.

    public int begin(char format) throws IllegalArgumentException, UnsupportedOperationException {
        if (format != STROKE_PLAY && format != MATCH_PLAY) {
            throw new IllegalArgumentException("no such format");
        }
        if (holeCount == 0 || playerCount == 0 || isOn || format == MATCH_PLAY && playerCount != 2) {
            throw new UnsupportedOperationException("no round can be begun");
        }
        this.format = format;
        isBegun = true;
        isOn = true;
        isSuspended = false;
        match.restart();
        for (int i = 0; i < playerCount; i++) {
            players[i].card.wipe();
            honour[i] = i;
        }
        startHole(0);
        return holeCount;
    }

    public int holeOn() throws IllegalStateException {
        needRound();
        return holeNow;
    }

    public int away() throws IllegalStateException, NoSuchElementException {
        needRound();
        int next = whoPlaysNext();
        if (next == NONE) {
            throw new NoSuchElementException("all are done");
        }
        return next;
    }

    // Strokes and sought balls.

    public char stroke(int player, int x, int y)
            throws IndexOutOfBoundsException, IllegalStateException, UnsupportedOperationException {
        needPlayer(player);
        needCell(x, y);
        needPlay();
        Ball ball = players[player].ball;
        int aim = cellAt(x, y);
        needAim(ball, aim);
        match.outOfOrder = NONE;
        if (isMatch() && ball.isInWrongPlace) {
            ball.state = PICKED_UP;
            return ball.state;
        }
        keepIfOutOfOrder(player);
        Hole hole = holes[holeNow];
        if (ball.isInWrongPlace) {
            ball.playWrongly(hole.isSeriousBreach(ball.cell, ball.rightCell));
        }
        int landing = drawLanding(ball.cell, ball.isOnTee, aim);
        ball.strike(landing, stateAfter(hole.outcomeAt(landing)));
        return ball.state;
    }

    public int odds(int player, int x, int y, char kind)
            throws IndexOutOfBoundsException, IllegalArgumentException, IllegalStateException,
                    UnsupportedOperationException {
        needPlayer(player);
        needCell(x, y);
        if (!isKind(kind) && kind != CUP && kind != OFF) {
            throw new IllegalArgumentException("no such kind");
        }
        needRound();
        Ball ball = players[player].ball;
        needAim(ball, cellAt(x, y));
        Hole hole = holes[holeNow];
        int spread = hole.spreadFrom(ball.cell, ball.isOnTee, cellAt(x, y));
        int pairs = 0;
        for (int dy = -spread; dy <= spread; dy++) {
            for (int dx = -spread; dx <= spread; dx++) {
                if (hole.outcomeAt(cellOrNone(x + dx, y + dy)) == kind) {
                    pairs++;
                }
            }
        }
        return pairs;
    }

    public char provisional(int player, int x, int y)
            throws IndexOutOfBoundsException, IllegalStateException, UnsupportedOperationException {
        needPlayer(player);
        needCell(x, y);
        needPlay();
        Ball ball = players[player].ball;
        Hole hole = holes[holeNow];
        int aim = cellAt(x, y);
        if (ball.state != SOUGHT || ball.provisional != NO_BALL || !hole.isAim(ball.spot, ball.isSpotTee, aim)) {
            throw new UnsupportedOperationException("no such provisional ball");
        }
        match.outOfOrder = NONE;
        ball.provisionalCell = drawLanding(ball.spot, ball.isSpotTee, aim);
        char then = stateAfter(hole.outcomeAt(ball.provisionalCell));
        ball.provisional = then == SOUGHT ? GONE : then;
        return ball.provisional;
    }

    public char search(int player)
            throws IndexOutOfBoundsException, IllegalStateException, UnsupportedOperationException {
        needPlayer(player);
        needPlay();
        Ball ball = players[player].ball;
        if (ball.state != SOUGHT) {
            throw new UnsupportedOperationException("the ball is not sought");
        }
        match.outOfOrder = NONE;
        if (holes[holeNow].kindOf(ball.cell) == 'd' && draw(4) != 0) {
            ball.find();
        } else {
            ball.lose();
        }
        return ball.state;
    }

    // Relief.

    public int again(int player)
            throws IndexOutOfBoundsException, IllegalStateException, UnsupportedOperationException {
        needPlayer(player);
        needRound();
        Ball ball = players[player].ball;
        if (ball.state == NOT_BEGUN || ball.isDone() || ball.strokes == 0) {
            throw new UnsupportedOperationException("no relief at the spot");
        }
        return relieveWithPenalty(ball, ball.spot);
    }

    public int line(int player, int times)
            throws IndexOutOfBoundsException, IllegalArgumentException, IllegalStateException,
                    UnsupportedOperationException {
        needPlayer(player);
        if (times < 1 || times > MOST_TIMES) {
            throw new IllegalArgumentException("the number is out of range");
        }
        needRound();
        Ball ball = players[player].ball;
        Hole hole = holes[holeNow];
        int cell = ball.isAtRest() ? hole.cellOnLine(ball.cell, times) : NONE;
        if (cell == NONE || !hole.isOpenForPenalty(cell)) {
            throw new UnsupportedOperationException("no relief on the line");
        }
        return relieveWithPenalty(ball, cell);
    }

    public int aside(int player, int x, int y)
            throws IndexOutOfBoundsException, IllegalStateException, UnsupportedOperationException {
        needPlayer(player);
        needCell(x, y);
        needRound();
        Ball ball = players[player].ball;
        if (!ball.isAtRest() || !holes[holeNow].isAside(ball.cell, cellAt(x, y))) {
            throw new UnsupportedOperationException("no relief aside");
        }
        return relieveWithPenalty(ball, cellAt(x, y));
    }

    public int point(int player, boolean isX)
            throws IndexOutOfBoundsException, IllegalStateException, UnsupportedOperationException,
                    NoSuchElementException {
        needPlayer(player);
        needRound();
        Ball ball = players[player].ball;
        if (!isOnFreeKind(ball)) {
            throw new UnsupportedOperationException("no relief without a penalty");
        }
        int point = holes[holeNow].nearestPoint(ball.cell);
        if (point == NONE) {
            throw new NoSuchElementException("there is no point");
        }
        return isX ? point % WIDTH : point / WIDTH;
    }

    public char free(int player, int x, int y)
            throws IndexOutOfBoundsException, IllegalStateException, UnsupportedOperationException,
                    NoSuchElementException {
        needPlayer(player);
        needCell(x, y);
        needRound();
        Ball ball = players[player].ball;
        Hole hole = holes[holeNow];
        int cell = cellAt(x, y);
        // Ground and cup tell of a cell that it is not allowed, whatever the point, so they come ahead of it.
        if (!isOnFreeKind(ball) || !hole.isFreeGround(cell)) {
            throw new UnsupportedOperationException("no relief without a penalty");
        }
        int point = hole.nearestPoint(ball.cell);
        if (point == NONE) {
            throw new NoSuchElementException("there is no point");
        }
        if (!hole.isFreeFrom(point, cell) || distance(point, cell) > 1) {
            throw new UnsupportedOperationException("the cell is not allowed");
        }
        char before = hole.kindOf(ball.cell);
        match.outOfOrder = NONE;
        ball.putByRelief(cell, hole.tee);
        return before;
    }

    // Wrong places, and other things that befall a ball.

    public boolean wrongPlace(int player, int x, int y)
            throws IndexOutOfBoundsException, IllegalStateException, UnsupportedOperationException {
        needPlayer(player);
        needCell(x, y);
        needRound();
        Ball ball = players[player].ball;
        Hole hole = holes[holeNow];
        int cell = cellAt(x, y);
        if (!ball.isAtRest() || ball.isBreach || ball.cell == cell || !hole.isOpen(cell)) {
            throw new UnsupportedOperationException("no wrong place there");
        }
        match.outOfOrder = NONE;
        ball.putWrongly(cell);
        return hole.isSeriousBreach(cell, ball.rightCell);
    }

    public int correct(int player)
            throws IndexOutOfBoundsException, IllegalStateException, UnsupportedOperationException {
        needPlayer(player);
        needRound();
        Ball ball = players[player].ball;
        if (!ball.isBreach) {
            throw new UnsupportedOperationException("there is nothing to be corrected");
        }
        ball.putRightly();
        return ball.scoreSoFar();
    }

    public int move(int player, char by, int x, int y)
            throws IndexOutOfBoundsException, IllegalArgumentException, IllegalStateException,
                    UnsupportedOperationException {
        needPlayer(player);
        if (by != 'p' && by != 'e' && by != 'k' && by != 'w') {
            throw new IllegalArgumentException("no such cause");
        }
        needRound();
        Ball ball = players[player].ball;
        Hole hole = holes[holeNow];
        int cell = cellOrNone(x, y);
        if (!ball.isAtRest() || by == 'w' && !hole.isOpen(cell)) {
            throw new UnsupportedOperationException("the ball cannot be moved so");
        }
        match.outOfOrder = NONE;
        if (by == 'w') {
            ball.cell = cell;
        }
        if (by == 'p' && (hole.kindOf(ball.cell) != 'g' || law == OLD_EDITION)) {
            ball.penalties++;
        }
        return ball.scoreSoFar();
    }

    public int wrongBall(int player, int other)
            throws IndexOutOfBoundsException, IllegalStateException, UnsupportedOperationException {
        needPlayer(player);
        needPlayer(other);
        needRound();
        Ball ball = players[player].ball;
        if (player == other || !ball.isAtRest() || !players[other].ball.isAtRest()) {
            throw new UnsupportedOperationException("no such wrong ball");
        }
        match.outOfOrder = NONE;
        if (isMatch()) {
            ball.state = PICKED_UP;
        } else {
            ball.penalties += 2;
        }
        return ball.scoreSoFar();
    }

    public int pickUp(int player)
            throws IndexOutOfBoundsException, IllegalStateException, UnsupportedOperationException {
        needPlayer(player);
        needRound();
        Ball ball = players[player].ball;
        if (ball.isDone()) {
            throw new UnsupportedOperationException("the player is done");
        }
        match.outOfOrder = NONE;
        ball.state = PICKED_UP;
        return howManyNotDone();
    }

    public boolean suspend(boolean is) throws IllegalStateException {
        needRound();
        boolean before = isSuspended;
        isSuspended = is;
        return before;
    }

    // The match.

    public boolean cancel(int player)
            throws IndexOutOfBoundsException, IllegalStateException, UnsupportedOperationException {
        needPlayer(player);
        needRound();
        if (!isMatch() || match.outOfOrder != player) {
            throw new UnsupportedOperationException("there is no stroke to be cancelled");
        }
        match.outOfOrder = NONE;
        players[player].ball.copyFrom(match.ahead);
        return match.ahead.state == NOT_BEGUN;
    }

    public int concede(int player, char what)
            throws IndexOutOfBoundsException, IllegalArgumentException, IllegalStateException,
                    UnsupportedOperationException {
        needPlayer(player);
        if (what != 's' && what != 'h' && what != 'm') {
            throw new IllegalArgumentException("no such thing");
        }
        needRound();
        if (!isMatch() || what == 's' && players[otherInMatch(player)].ball.state != LIES
                || what == 'h' && match.isHoleConceded) {
            throw new UnsupportedOperationException("it cannot be conceded");
        }
        switch (what) {
            case 's':
                concedeStroke(players[otherInMatch(player)].ball);
                break;
            case 'h':
                concedeHole(player);
                break;
            default:
                match.isConceded = true;
                break;
        }
        return match.upBy;
    }

    public int nextHole() throws IllegalStateException, UnsupportedOperationException {
        needRound();
        if (howManyNotDone() > 0) {
            throw new UnsupportedOperationException("somebody is not done");
        }
        for (int i = 0; i < playerCount; i++) {
            players[i].card.tell(holeNow, players[i].ball);
        }
        if (isMatch()) {
            match.count(winsOfFirst());
        }
        orderHonour();
        if (holeNow + 1 < holeCount) {
            startHole(holeNow + 1);
            return holeNow;
        }
        isOn = false;
        return holeCount;
    }

    // What lies where.

    public char state(int player) throws IndexOutOfBoundsException, IllegalStateException {
        needPlayer(player);
        needRound();
        return players[player].ball.state;
    }

    public int lie(int player, boolean isX)
            throws IndexOutOfBoundsException, IllegalStateException, NoSuchElementException {
        needPlayer(player);
        needRound();
        Ball ball = players[player].ball;
        if (!ball.isPlayable()) {
            throw new NoSuchElementException("the ball lies nowhere");
        }
        return isX ? ball.cell % WIDTH : ball.cell / WIDTH;
    }

    public int strokes(int player) throws IndexOutOfBoundsException, IllegalStateException {
        needPlayer(player);
        needRound();
        return players[player].ball.strokes;
    }

    public int penalties(int player) throws IndexOutOfBoundsException, IllegalStateException {
        needPlayer(player);
        needRound();
        return players[player].ball.penalties;
    }

    public boolean isOut(int player) throws IndexOutOfBoundsException {
        needPlayer(player);
        return players[player].card.isOut;
    }

    public int score(int player, int hole) throws IndexOutOfBoundsException, NoSuchElementException {
        needPlayer(player);
        needHole(hole);
        int score = players[player].card.scoreOn(hole);
        if (score == 0) {
            throw new NoSuchElementException("there is no score");
        }
        return score;
    }

    public int up() throws UnsupportedOperationException {
        needMatch();
        return match.upBy;
    }

    public boolean isMatchOver() throws UnsupportedOperationException {
        needMatch();
        return !isOn || match.isConceded || Math.abs(match.upBy) > holeCount - match.counted;
    }

    // Cards and points.

    public int write(int player, int hole, int score)
            throws IndexOutOfBoundsException, IllegalArgumentException, UnsupportedOperationException {
        needPlayer(player);
        needHole(hole);
        if (score < 1 || score > MOST_WRITTEN) {
            throw new IllegalArgumentException("the score is out of range");
        }
        Card card = players[player].card;
        if (!isRoundOver() || card.isSigned) {
            throw new UnsupportedOperationException("nothing can be written");
        }
        int before = card.written[hole];
        card.written[hole] = score;
        return before;
    }

    public boolean sign(int player)
            throws IndexOutOfBoundsException, UnsupportedOperationException, NoSuchElementException {
        needPlayer(player);
        Card card = players[player].card;
        if (!isRoundOver() || card.isSigned || card.isOut) {
            throw new UnsupportedOperationException("the card cannot be signed");
        }
        if (!card.isScoredOn(holeCount)) {
            throw new NoSuchElementException("there is no score on some hole");
        }
        card.isSigned = true;
        card.isOut = card.isTooLow(holeCount);
        return !card.isOut;
    }

    public int total(int player) throws IndexOutOfBoundsException, NoSuchElementException {
        needPlayer(player);
        Card card = players[player].card;
        if (!card.isWrittenOn(holeCount)) {
            throw new NoSuchElementException("nothing is written for some hole");
        }
        return card.sumFrom(0, holeCount);
    }

    public int stableford(int player) throws IndexOutOfBoundsException {
        needPlayer(player);
        int sum = 0;
        for (int i = 0; i < holeCount; i++) {
            if (players[player].card.writtenOn(i) != 0) {
                sum += Math.max(0, 2 + holes[i].par - netScore(player, i));
            }
        }
        return sum;
    }

    public int parPlay(int player) throws IndexOutOfBoundsException, NoSuchElementException {
        needPlayer(player);
        needRoundOver();
        int sum = 0;
        for (int i = 0; i < holeCount; i++) {
            boolean isWritten = players[player].card.writtenOn(i) != 0;
            sum += isWritten ? Integer.compare(holes[i].par, netScore(player, i)) : -1;
        }
        return sum;
    }

    public int together(int player, int other)
            throws IndexOutOfBoundsException, IllegalArgumentException, NoSuchElementException {
        needPlayer(player);
        needPlayer(other);
        if (player == other) {
            throw new IllegalArgumentException("both are the same");
        }
        int sum = 0;
        for (int i = 0; i < holeCount; i++) {
            boolean isFirst = players[player].card.writtenOn(i) != 0;
            boolean isSecond = players[other].card.writtenOn(i) != 0;
            if (!isFirst && !isSecond) {
                throw new NoSuchElementException("nothing is written for both");
            }
            int first = netScore(isFirst ? player : other, i);
            int second = netScore(isSecond ? other : player, i);
            sum += Math.min(first, second);
        }
        return sum;
    }

    public int skins(int player) throws IndexOutOfBoundsException, NoSuchElementException {
        needPlayer(player);
        needRoundOver();
        return skinsOf(player);
    }

    // Ranks.

    public int rank(int player) throws IndexOutOfBoundsException, NoSuchElementException {
        needPlayer(player);
        needRanked(player);
        return rankOf(player);
    }

    public boolean isAhead(int player, int other) throws IndexOutOfBoundsException, NoSuchElementException {
        needPlayer(player);
        needPlayer(other);
        needRanked(player);
        needRanked(other);
        int order = compareLast(player, other, holeCount);
        if (order == 0) {
            order = compareLast(player, other, holeCount / 2);
        }
        if (order == 0) {
            order = compareLast(player, other, holeCount / 3);
        }
        if (order == 0) {
            order = compareLast(player, other, 1);
        }
        return order < 0;
    }

    public int cut(int places) throws IllegalArgumentException {
        if (places < 1 || places > MOST_PLAYERS) {
            throw new IllegalArgumentException("the greatest rank is out of range");
        }
        int made = 0;
        for (int i = 0; i < playerCount; i++) {
            if (players[i].card.isRanked() && rankOf(i) <= places) {
                made++;
            }
        }
        return made;
    }

    // Handicaps.

    public int conditions(int conditions) throws IllegalArgumentException {
        if (conditions < -1 || conditions > 3) {
            throw new IllegalArgumentException("the conditions are out of range");
        }
        int before = weather;
        weather = conditions;
        return before;
    }

    public int post(int player, int rating, int slope)
            throws IndexOutOfBoundsException, IllegalArgumentException, UnsupportedOperationException {
        needPlayer(player);
        if (rating < 100 || rating > 800 || slope < 55 || slope > 155) {
            throw new IllegalArgumentException("a number is out of range");
        }
        Card card = players[player].card;
        if (!card.isRanked() || card.isPosted) {
            throw new UnsupportedOperationException("the card cannot be posted");
        }
        int sum = 0;
        for (int i = 0; i < holeCount; i++) {
            int most = holes[i].par + 2 + strokesGiven(players[player].handicap, i);
            sum += Math.min(card.writtenOn(i), most);
        }
        int difference = Math.floorDiv((sum * 10 - rating) * 113, slope) - 10 * weather;
        card.isPosted = true;
        players[player].form.add(difference);
        return difference;
    }

    public int difference(int player, int index) throws IndexOutOfBoundsException {
        needPlayer(player);
        if (index < 0 || index >= players[player].form.count) {
            throw new IndexOutOfBoundsException("no such difference");
        }
        return players[player].form.differenceAt(index);
    }

    public int index(int player) throws IndexOutOfBoundsException, NoSuchElementException {
        needPlayer(player);
        needPosted(player);
        return players[player].form.index;
    }

    public int lowIndex(int player) throws IndexOutOfBoundsException, NoSuchElementException {
        needPlayer(player);
        needPosted(player);
        return players[player].form.low;
    }

    // Sums over all.

    public long checksum() {
        long sum = 7;
        for (int i = 0; i < holeCount; i++) {
            Hole hole = holes[i];
            for (int cell = 0; cell < CELLS; cell++) {
                sum = 31 * sum + hole.kindOf(cell);
            }
        }
        return sum;
    }

    public float penaltyShare(int player) throws IndexOutOfBoundsException, ArithmeticException {
        needPlayer(player);
        Card card = players[player].card;
        int scores = 0;
        int penalties = 0;
        for (int i = 0; i < holeCount; i++) {
            scores += card.scores[i];
            penalties += card.penalties[i];
        }
        if (scores == 0) {
            throw new ArithmeticException("there is no score");
        }
        return (float) penalties / (float) scores;
    }

    public double meanScore(int hole) throws IndexOutOfBoundsException, ArithmeticException {
        needHole(hole);
        int sum = 0;
        int count = 0;
        for (int i = 0; i < playerCount; i++) {
            int score = players[i].card.scoreOn(hole);
            if (score != 0) {
                sum += score;
                count++;
            }
        }
        if (count == 0) {
            throw new ArithmeticException("there is no score");
        }
        return (double) sum / (double) count;
    }

    public boolean isSound() {
        int skins = 0;
        for (int i = 0; i < playerCount; i++) {
            if (!players[i].form.isLawful() || !isPointNearest(players[i].ball)) {
                return false;
            }
            skins += isRoundOver() ? skinsOf(i) : 0;
        }
        return skins <= holeCount;
    }

    // What a call needs, or throws.

    private void needPlayer(int player) {
        if (player < 0 || player >= playerCount) {
            throw new IndexOutOfBoundsException("no such player");
        }
    }

    private void needHole(int hole) {
        if (hole < 0 || hole >= holeCount) {
            throw new IndexOutOfBoundsException("no such hole");
        }
    }

    private static void needCell(int x, int y) {
        if (!isCell(x, y)) {
            throw new IndexOutOfBoundsException("no such cell");
        }
    }

    private void needRound() {
        if (!isOn) {
            throw new IllegalStateException("no round is on");
        }
    }

    private void needPlay() {
        if (!isOn || isSuspended) {
            throw new IllegalStateException("no play is on");
        }
    }

    private void needAim(Ball ball, int aim) {
        if (!ball.isPlayable() || !holes[holeNow].isAim(ball.cell, ball.isOnTee, aim)) {
            throw new UnsupportedOperationException("no such stroke");
        }
    }

    private void needMatch() {
        if (!isMatch()) {
            throw new UnsupportedOperationException("there is no match");
        }
    }

    private void needRoundOver() {
        if (!isRoundOver()) {
            throw new NoSuchElementException("the round is not over");
        }
    }

    private void needRanked(int player) {
        if (!players[player].card.isRanked()) {
            throw new NoSuchElementException("no signed card, or out");
        }
    }

    private void needPosted(int player) {
        if (players[player].form.count == 0) {
            throw new NoSuchElementException("nothing was posted");
        }
    }

    // Cells.

    private static boolean isCell(int x, int y) {
        return x >= 0 && x < WIDTH && y >= 0 && y < HEIGHT;
    }

    private static int cellAt(int x, int y) {
        return y * WIDTH + x;
    }

    private static int cellOrNone(int x, int y) {
        return isCell(x, y) ? cellAt(x, y) : NONE;
    }

    private static int distance(int cell, int other) {
        int dx = cell % WIDTH - other % WIDTH;
        int dy = cell / WIDTH - other / WIDTH;
        return dx * dx + dy * dy;
    }

    private static int commonDivisor(int dx, int dy) {
        for (int divisor = WIDTH; divisor > 1; divisor--) {
            if (dx % divisor == 0 && dy % divisor == 0) {
                return divisor;
            }
        }
        return 1;
    }

    /** The root of a square, cut; it goes on from a root near by, as squares that follow each other ask. */
    private static int rootFrom(int near, int square) {
        int root = near;
        for (int i = 0; i < CELLS && root * root > square; i++) {
            root--;
        }
        for (int i = 0; i < CELLS && (root + 1) * (root + 1) <= square; i++) {
            root++;
        }
        return root;
    }

    private static boolean isKind(char kind) {
        switch (kind) {
            case GROUND:
            case 'g':
            case 'b':
            case 'd':
            case 'y':
            case 'r':
            case 'w':
            case 'p':
            case 'o':
                return true;
            default:
                return false;
        }
    }

    private static char stateAfter(char outcome) {
        switch (outcome) {
            case CUP:
                return HOLED;
            case OFF:
            case 'd':
            case 'o':
                return SOUGHT;
            default:
                return LIES;
        }
    }

    // The course.

    private boolean hasIndex(int index) {
        for (int i = 0; i < holeCount; i++) {
            if (holes[i].index == index) {
                return true;
            }
        }
        return false;
    }

    private int strokesGiven(int handicap, int hole) {
        if (holeCount < 1) {
            return 0;
        }
        int lower = 0;
        for (int i = 0; i < holeCount; i++) {
            if (holes[i].index < holes[hole].index) {
                lower++;
            }
        }
        return handicap / holeCount + (lower < handicap % holeCount ? 1 : 0);
    }

    // The round.

    private boolean isMatch() {
        return format == MATCH_PLAY;
    }

    private boolean isRoundOver() {
        return isBegun && !isOn;
    }

    private void startHole(int hole) {
        holeNow = hole;
        match.forgetHole();
        for (int i = 0; i < playerCount; i++) {
            players[i].ball.startAt(holes[hole].tee);
        }
    }

    private int howManyNotDone() {
        int left = 0;
        for (int i = 0; i < playerCount; i++) {
            if (!players[i].ball.isDone()) {
                left++;
            }
        }
        return left;
    }

    private int whoPlaysNext() {
        for (int i = 0; i < playerCount; i++) {
            if (players[honour[i]].ball.state == NOT_BEGUN) {
                return honour[i];
            }
        }
        int next = NONE;
        int most = NONE;
        for (int i = 0; i < playerCount; i++) {
            Ball ball = players[i].ball;
            int far = distance(ball.cellForOrder(), holes[holeNow].cup);
            if (!ball.isDone() && far > most) {
                next = i;
                most = far;
            }
        }
        return next;
    }

    /** Sorted by inserting, which leaves players with like scores in the honour of the hole before. */
    private void orderHonour() {
        for (int i = 1; i < playerCount; i++) {
            int moved = honour[i];
            int place = i;
            while (place > 0 && isHonourBefore(moved, honour[place - 1])) {
                honour[place] = honour[place - 1];
                place--;
            }
            honour[place] = moved;
        }
    }

    private boolean isHonourBefore(int player, int other) {
        int score = players[player].card.scoreOn(holeNow);
        int otherScore = players[other].card.scoreOn(holeNow);
        return score != 0 && (otherScore == 0 || score < otherScore);
    }

    // Strokes.

    private int draw(int modulo) {
        seed = seed * 1103515245 + 12345;
        return modulo < 1 ? 0 : (seed >>> 16) % modulo;
    }

    private int drawLanding(int from, boolean isTee, int aim) {
        int spread = holes[holeNow].spreadFrom(from, isTee, aim);
        if (spread == 0) {
            return aim;
        }
        int x = aim % WIDTH + draw(2 * spread + 1) - spread;
        int y = aim / WIDTH + draw(2 * spread + 1) - spread;
        return cellOrNone(x, y);
    }

    private void keepIfOutOfOrder(int player) {
        if (isMatch() && whoPlaysNext() != player) {
            match.outOfOrder = player;
            match.ahead.copyFrom(players[player].ball);
        }
    }

    // Relief.

    private int relieveWithPenalty(Ball ball, int cell) {
        match.outOfOrder = NONE;
        ball.penalties++;
        ball.putByRelief(cell, holes[holeNow].tee);
        return ball.scoreSoFar();
    }

    private boolean isOnFreeKind(Ball ball) {
        char kind = holes[holeNow].kindOf(ball.cell);
        return ball.isAtRest() && (kind == 'w' || kind == 'p');
    }

    private boolean isPointNearest(Ball ball) {
        Hole hole = holes[holeNow];
        return !isOn || !isOnFreeKind(ball)
                || hole.nearestPoint(ball.cell) == hole.pointByRisingDistances(ball.cell);
    }

    // The match.

    private static int otherInMatch(int player) {
        return player == 0 ? 1 : 0;
    }

    private void concedeStroke(Ball ball) {
        match.outOfOrder = NONE;
        ball.strokes++;
        ball.state = HOLED;
    }

    private void concedeHole(int player) {
        match.outOfOrder = NONE;
        for (int i = 0; i < playerCount; i++) {
            if (!players[i].ball.isDone()) {
                players[i].ball.state = PICKED_UP;
            }
        }
        match.count(player == 0 ? -1 : 1);
        match.isHoleConceded = true;
    }

    private int winsOfFirst() {
        int first = players[0].card.scoreOn(holeNow);
        int second = players[1].card.scoreOn(holeNow);
        if (first == 0 || second == 0) {
            return Integer.compare(first, second);
        }
        return Integer.compare(second - givenInMatch(1, 0), first - givenInMatch(0, 1));
    }

    private int givenInMatch(int player, int other) {
        int more = players[player].handicap - players[other].handicap;
        return more > 0 ? strokesGiven(more, holeNow) : 0;
    }

    // Points and ranks.

    private int netScore(int player, int hole) {
        return players[player].card.writtenOn(hole) - strokesGiven(players[player].handicap, hole);
    }

    private int skinsOf(int player) {
        int sum = 0;
        int waiting = 0;
        for (int i = 0; i < holeCount; i++) {
            waiting++;
            int winner = skinWinner(i);
            if (winner != NONE) {
                sum += winner == player ? waiting : 0;
                waiting = 0;
            }
        }
        return sum;
    }

    private int skinWinner(int hole) {
        int winner = NONE;
        int least = 0;
        boolean isAny = false;
        for (int i = 0; i < playerCount; i++) {
            if (players[i].card.writtenOn(hole) != 0) {
                int net = netScore(i, hole);
                if (!isAny || net < least) {
                    winner = i;
                    least = net;
                } else if (net == least) {
                    winner = NONE;
                }
                isAny = true;
            }
        }
        return winner;
    }

    private int rankOf(int player) {
        int less = 0;
        for (int i = 0; i < playerCount; i++) {
            if (players[i].card.isRanked() && compareLast(i, player, holeCount) < 0) {
                less++;
            }
        }
        return less + 1;
    }

    private int compareLast(int player, int other, int last) {
        int first = holeCount - last;
        return Integer.compare(players[player].card.sumFrom(first, holeCount),
                players[other].card.sumFrom(first, holeCount));
    }
}
