import java.util.Arrays;

/**
 * A town told by ear: its corners and ways, the stories that are read for it, the walkers under
 * way in it, and sheets of numbers. Sets (of pieces, corners or days) are bits of an int.
 *
 * <p>No call throws: what can't be done is answered by one of the findings below.
 */
public final class WalkTeller {
    private static final int BEYOND = -1000001;
    private static final int FULL = -1000002;
    private static final int KIND = -1000003;
    private static final int NONE = -1000004;
    private static final int STATE = -1000005;
    private static final int MISSING = -1000006;
    private static final int SIZE = -1000007;
    private static final int WRONG = -1000100;

    private static final int MOST_CORNERS = 8;
    private static final int MOST_WAYS = 14;
    private static final int MOST_PIECES = 12;
    private static final int MOST_EDITIONS = 4;
    private static final int MOST_WALKERS = 6;
    private static final int MOST_BYTES = 200;
    private static final int MOST_FED = 8;
    private static final int MOST_NUMBERS = 12;
    private static final int SHEETS = 4;

    private static final int LAST_PLACE = 99;
    private static final int LONGEST_WAY = 20;
    private static final int LONGEST_PIECE = 9;
    private static final int MOST_DOUBT = 30;
    private static final int DAYS = 7;
    private static final int ALL_DAYS = 127;

    private static final int PIECE = 0;
    private static final int SONG = 1;
    private static final int TURN = 2;
    private static final int END = 3;
    /** The letters of the kinds in a text, each at its kind's number. */
    private static final String KIND_LETTERS = "pste";

    /** A time that no walk takes: above all sums of lengths, and safe to add a length to. */
    private static final int NEVER = 1000000000;

    private final Town town = new Town();
    private final Tape tape = new Tape();
    private final Edition[] editions = new Edition[MOST_EDITIONS];
    private final Walker[] walkers = new Walker[MOST_WALKERS];
    private final Sheet[] sheets = new Sheet[SHEETS];
    private final Search search = new Search();
    private int editionCount = 0;
    private int walkerCount = 0;
    private int dayNow = 0;
    private int findings = 0;

    public WalkTeller() {
    }

    // ---- the town

    public int corner(int x, int y) {
        if (!isWithin(x, 0, LAST_PLACE) || !isWithin(y, 0, LAST_PLACE)) {
            return finding(BEYOND);
        }
        if (town.cornerCount >= MOST_CORNERS) {
            return finding(FULL);
        }
        return town.addCorner(x, y);
    }

    public int way(int a, int b, int length, boolean stairs) {
        if (!town.hasCorner(a) || !town.hasCorner(b) || a == b) {
            return finding(BEYOND);
        }
        if (!isWithin(length, 1, LONGEST_WAY)) {
            return finding(BEYOND);
        }
        if (town.wayCount >= MOST_WAYS) {
            return finding(FULL);
        }
        return town.addWay(new Way(a, b, length, stairs));
    }

    public int shut(int way, int days) {
        Way changed = town.findWay(way);
        if (changed == null || !isWithin(days, 0, ALL_DAYS)) {
            return finding(BEYOND);
        }
        int before = changed.shutDays;
        changed.shutDays = days;
        return before;
    }

    public int far(int a, int b, int day, boolean stairs) {
        if (!town.hasCorner(a) || !town.hasCorner(b) || !isDay(day)) {
            return finding(BEYOND);
        }
        return timeOrNone(search.distance(town, a, b, day, stairs));
    }

    // ---- stories

    public int feed(long w, int n) {
        if (!isWithin(n, 1, MOST_FED)) {
            return finding(BEYOND);
        }
        if (tape.length + n > MOST_BYTES) {
            return finding(FULL);
        }
        tape.append(w, n);
        return tape.length;
    }

    public int story() {
        Reader reader = new Reader(tape, town.cornerCount);
        Edition edition = reader.readEdition();
        tape.length = 0;
        if (edition == null) {
            return finding(WRONG - reader.place);
        }
        if (editionCount >= MOST_EDITIONS) {
            return finding(FULL);
        }
        editions[editionCount] = edition;
        editionCount++;
        return editionCount - 1;
    }

    public int as(int edition, int piece, int kind) {
        Piece asked = findPiece(edition, piece);
        if (asked == null || !isWithin(kind, PIECE, END)) {
            return finding(BEYOND);
        }
        return asked.isOfKind(kind) ? piece : finding(KIND);
    }

    public int of(int edition, int piece, int what) {
        Piece asked = findPiece(edition, piece);
        if (asked == null) {
            return finding(BEYOND);
        }
        switch (what) {
            case 0: return asked.kind;
            case 1: return asked.corner;
            case 2: return asked.length;
            case 3: return asked.needs;
            case 4: return asked.days;
            default: return finding(BEYOND);
        }
    }

    public int check(int edition, int corner, int day, boolean stairs, int what) {
        if (!isWithin(what, 0, 3) || !searchAnew(edition, corner, day, stairs)) {
            return finding(BEYOND);
        }
        switch (what) {
            case 0: return search.countMoments();
            case 1: return search.countDeadEnds();
            case 2: return search.countTwoVoices();
            default: return search.heardInSome();
        }
    }

    public int quickest(int edition, int corner, int day, boolean stairs) {
        if (!searchAnew(edition, corner, day, stairs)) {
            return finding(BEYOND);
        }
        return timeOrNone(search.timeFrom(corner, 0));
    }

    public int route(int edition, int corner, int day, boolean stairs, int i) {
        if (i < 0 || !searchAnew(edition, corner, day, stairs)) {
            return finding(BEYOND);
        }
        if (search.timeFrom(corner, 0) >= NEVER) {
            return finding(NONE);
        }
        return search.cornerOnQuickest(corner, i);
    }

    // ---- walkers

    public int walker(int corner, boolean stairs) {
        if (!town.hasCorner(corner)) {
            return finding(BEYOND);
        }
        Edition latest = findEdition(editionCount - 1);
        if (latest == null) {
            return finding(STATE);
        }
        if (walkerCount >= MOST_WALKERS) {
            return finding(FULL);
        }
        Walker begun = new Walker(latest, editionCount - 1, stairs);
        begun.arrive(corner, dayNow);
        walkers[walkerCount] = begun;
        walkerCount++;
        return walkerCount - 1;
    }

    public int today(int day) {
        if (!isDay(day)) {
            return finding(BEYOND);
        }
        int before = dayNow;
        dayNow = day;
        for (int n = 0; n < walkerCount; n++) {
            walkers[n].listen(dayNow);
        }
        return before;
    }

    public int go(int walker, int way) {
        Walker goer = findWalker(walker);
        Way by = town.findWay(way);
        if (goer == null || by == null) {
            return finding(BEYOND);
        }
        if (goer.isOver()) {
            return finding(STATE);
        }
        if (!by.leadsFrom(goer.corner) || by.isShut(dayNow)) {
            return finding(NONE);
        }
        if (!by.isFor(goer.stairs)) {
            return finding(KIND);
        }
        goer.time += by.length;
        return goer.arrive(by.otherEnd(goer.corner), dayNow);
    }

    public int about(int walker, int what) {
        Walker asked = findWalker(walker);
        if (asked == null) {
            return finding(BEYOND);
        }
        switch (what) {
            case 0: return asked.corner;
            case 1: return asked.heard;
            case 2: return asked.time;
            case 3: return asked.editionNumber;
            case 4: return asked.isOver() ? 1 : 0;
            case 5: return asked.lastTold;
            default: return finding(BEYOND);
        }
    }

    public int offer(int walker) {
        Walker asked = findWalker(walker);
        if (asked == null) {
            return finding(BEYOND);
        }
        if (asked.isOver()) {
            return finding(STATE);
        }
        searchFrom(asked);
        int best = bestNextCorner(asked);
        return best >= 0 ? best : finding(NONE);
    }

    public int rest(int walker) {
        Walker asked = findWalker(walker);
        if (asked == null) {
            return finding(BEYOND);
        }
        searchFrom(asked);
        return timeOrNone(search.timeFrom(asked.corner, asked.heard));
    }

    public int lost(int walker) {
        Walker asked = findWalker(walker);
        if (asked == null) {
            return finding(BEYOND);
        }
        searchFrom(asked);
        return asked.edition.allPieces() & ~search.heardInSome();
    }

    public int seen(int walker, int x, int y, int doubt) {
        Walker read = findWalker(walker);
        if (read == null || !isDoubt(doubt)) {
            return finding(BEYOND);
        }
        if (read.isOver()) {
            return finding(STATE);
        }
        read.takeReading(town, dayNow, x, y, doubt);
        return read.corner;
    }

    // ---- sheets

    public int sheet(int s, int bits, int n) {
        if (!isSheet(s) || !isSheetBits(bits)) {
            return finding(BEYOND);
        }
        if (n < 0) {
            return finding(SIZE);
        }
        if (n > MOST_NUMBERS) {
            return finding(BEYOND);
        }
        if (bits == 0) {
            sheets[s] = null;
            return 0;
        }
        sheets[s] = new Sheet(bits, n);
        return n;
    }

    public int write(int s, int i, int v) {
        if (!isSheet(s)) {
            return finding(BEYOND);
        }
        Sheet written = sheets[s];
        if (written == null) {
            return finding(MISSING);
        }
        if (!isWithin(i, 0, written.numbers.length - 1)) {
            return finding(BEYOND);
        }
        int before = written.numbers[i];
        written.numbers[i] = written.lowestBits(v);
        return before;
    }

    public int copy(int s, int from, int t, int to, int n) {
        if (!isSheet(s) || !isSheet(t)) {
            return finding(BEYOND);
        }
        Sheet source = sheets[s];
        Sheet target = sheets[t];
        if (source == null || target == null) {
            return finding(MISSING);
        }
        if (source.bits != target.bits) {
            return finding(KIND);
        }
        if (!source.hasRange(from, n) || !target.hasRange(to, n)) {
            return finding(BEYOND);
        }
        System.arraycopy(source.numbers, from, target.numbers, to, n);
        return n;
    }

    public int trace(int s, int walker) {
        Walker read = findWalker(walker);
        if (!isSheet(s) || read == null) {
            return finding(BEYOND);
        }
        Sheet readings = sheets[s];
        if (readings == null) {
            return finding(MISSING);
        }
        int[] numbers = readings.numbers;
        int taken = 0;
        for (int i = 0; i + 2 < numbers.length; i += 3) {
            if (read.isOver() || !isDoubt(numbers[i + 2])) {
                break;
            }
            read.takeReading(town, dayNow, numbers[i], numbers[i + 1], numbers[i + 2]);
            taken++;
        }
        return taken;
    }

    public int told(int what) {
        switch (what) {
            case 0: return town.cornerCount;
            case 1: return town.wayCount;
            case 2: return editionCount;
            case 3: return walkerCount;
            case 4: return dayNow;
            case 5: return tape.length;
            case 6: return findings;
            default: return finding(BEYOND);
        }
    }

    // ---- what the acts share

    private int finding(int which) {
        findings++;
        return which;
    }

    private int timeOrNone(int time) {
        return time < NEVER ? time : finding(NONE);
    }

    /** The edition of that number, or null if there is none such. */
    private Edition findEdition(int number) {
        return isWithin(number, 0, editionCount - 1) ? editions[number] : null;
    }

    /** The piece of that number in that edition, or null if there is none such. */
    private Piece findPiece(int edition, int piece) {
        Edition found = findEdition(edition);
        return found == null ? null : found.findPiece(piece);
    }

    /** The walker of that number, or null if there is none such. */
    private Walker findWalker(int number) {
        return isWithin(number, 0, walkerCount - 1) ? walkers[number] : null;
    }

    /** Searches from a corner with nothing heard; false (and no search) if one is beyond. */
    private boolean searchAnew(int edition, int corner, int day, boolean stairs) {
        Edition found = findEdition(edition);
        if (found == null || !town.hasCorner(corner) || !isDay(day)) {
            return false;
        }
        search.explore(town, found, corner, 0, day, stairs);
        return true;
    }

    private void searchFrom(Walker from) {
        search.explore(town, from.edition, from.corner, from.heard, dayNow, from.stairs);
    }

    /** The corner to offer to a walker from whose moment was searched, or -1 for none. */
    private int bestNextCorner(Walker asked) {
        int best = -1;
        int bestCrowd = 0;
        int bestTime = 0;
        for (int to = 0; to < MOST_CORNERS; to++) {
            int time = search.timeBy(asked.corner, to, asked.heard);
            if (time >= NEVER) {
                continue;
            }
            int crowd = countWalking(to);
            if (best < 0 || crowd < bestCrowd || (crowd == bestCrowd && time < bestTime)) {
                best = to;
                bestCrowd = crowd;
                bestTime = time;
            }
        }
        return best;
    }

    private int countWalking(int corner) {
        int count = 0;
        for (int n = 0; n < walkerCount; n++) {
            if (walkers[n].corner == corner && !walkers[n].isOver()) {
                count++;
            }
        }
        return count;
    }

    private static boolean isWithin(int value, int least, int most) {
        return value >= least && value <= most;
    }

    private static boolean isDay(int day) {
        return isWithin(day, 0, DAYS - 1);
    }

    private static boolean isDoubt(int doubt) {
        return isWithin(doubt, 0, MOST_DOUBT);
    }

    private static boolean isSheet(int s) {
        return isWithin(s, 0, SHEETS - 1);
    }

    private static boolean isSheetBits(int bits) {
        return bits == 0 || bits == 8 || bits == 16 || bits == 32;
    }

    private static boolean has(int set, int member) {
        return (set >> member & 1) != 0;
    }

    /** The corners, and the ways that join them. */
    private static final class Town {
        private final int[] xs = new int[MOST_CORNERS];
        private final int[] ys = new int[MOST_CORNERS];
        private final Way[] ways = new Way[MOST_WAYS];
        private int cornerCount = 0;
        private int wayCount = 0;

        int addCorner(int x, int y) {
            xs[cornerCount] = x;
            ys[cornerCount] = y;
            cornerCount++;
            return cornerCount - 1;
        }

        int addWay(Way added) {
            ways[wayCount] = added;
            wayCount++;
            return wayCount - 1;
        }

        boolean hasCorner(int number) {
            return isWithin(number, 0, cornerCount - 1);
        }

        /** The way of that number, or null if there is none such. */
        Way findWay(int number) {
            return isWithin(number, 0, wayCount - 1) ? ways[number] : null;
        }

        boolean isJoined(int a, int b, int day, boolean stairs) {
            for (int n = 0; n < wayCount; n++) {
                if (ways[n].isOpen(day, stairs) && ways[n].leadsFrom(a) && ways[n].otherEnd(a) == b) {
                    return true;
                }
            }
            return false;
        }

        /** The set of corners that a reading may mean. */
        int possibleCorners(int x, int y, int doubt) {
            int set = 0;
            for (int n = 0; n < cornerCount; n++) {
                // The bounds are made from the corner's place: x and y may be any int.
                if (isWithin(x, xs[n] - doubt, xs[n] + doubt)
                        && isWithin(y, ys[n] - doubt, ys[n] + doubt)) {
                    set |= 1 << n;
                }
            }
            return set;
        }
    }

    private static final class Way {
        private final int a;
        private final int b;
        private final int length;
        private final boolean stairs;
        private int shutDays = 0;

        Way(int a, int b, int length, boolean stairs) {
            this.a = a;
            this.b = b;
            this.length = length;
            this.stairs = stairs;
        }

        boolean leadsFrom(int corner) {
            return corner == a || corner == b;
        }

        int otherEnd(int corner) {
            return corner == a ? b : a;
        }

        boolean isShut(int day) {
            return has(shutDays, day);
        }

        boolean isFor(boolean withStairs) {
            return withStairs || !stairs;
        }

        boolean isOpen(int day, boolean withStairs) {
            return !isShut(day) && isFor(withStairs);
        }
    }

    /** The bytes that were fed and not yet read as a text. */
    private static final class Tape {
        private final byte[] bytes = new byte[MOST_BYTES];
        private int length = 0;

        void append(long word, int count) {
            for (int n = 0; n < count; n++) {
                bytes[length] = (byte) (word >> (8 * n));
                length++;
            }
        }

        /** The byte at a place, or -1 behind the last one. */
        int byteAt(int place) {
            return isWithin(place, 0, length - 1) ? bytes[place] & 255 : -1;
        }
    }

    /** Reads a text; its place stays at the first byte that can't stand there, if one can't. */
    private static final class Reader {
        private final Tape tape;
        private final int cornerCount;
        private int place = 0;

        Reader(Tape tape, int cornerCount) {
            this.tape = tape;
            this.cornerCount = cornerCount;
        }

        /** The edition, or null if the text is wrong at the place. */
        Edition readEdition() {
            Edition edition = new Edition();
            for (int n = 0; n < MOST_PIECES; n++) {
                Piece piece = readPiece();
                if (piece == null) {
                    return null;
                }
                edition.addPiece(piece);
                if (place == tape.length) {
                    return edition;
                }
            }
            return null;
        }

        private Piece readPiece() {
            int corner = takeOneOf('0', cornerCount);
            if (corner < 0) {
                return null;
            }
            int kind = takeKind();
            if (kind < 0) {
                return null;
            }
            int length = takeOneOf('1', LONGEST_PIECE) + 1;
            if (length < 1) {
                return null;
            }
            int needs = takeRising('a', MOST_PIECES);
            int days = ALL_DAYS;
            if (kind == SONG && takeSign('@')) {
                days = takeRising('0', DAYS);
            }
            if (days == 0 || !takeSign(';')) {
                return null;
            }
            return new Piece(kind, corner, length, needs, days);
        }

        private boolean takeSign(char sign) {
            return takeOneOf(sign, 1) == 0;
        }

        private int takeKind() {
            int letter = tape.byteAt(place);
            for (int kind = 0; kind < KIND_LETTERS.length(); kind++) {
                if (KIND_LETTERS.charAt(kind) == letter) {
                    place++;
                    return kind;
                }
            }
            return -1;
        }

        /** Which of so many signs from the first one on stands here, and steps over it; or -1. */
        private int takeOneOf(char first, int count) {
            int which = tape.byteAt(place) - first;
            if (!isWithin(which, 0, count - 1)) {
                return -1;
            }
            place++;
            return which;
        }

        /** The set of signs that stand here, each behind the one ahead of it. */
        private int takeRising(char first, int count) {
            int set = 0;
            int least = 0;
            for (int n = 0; n < count; n++) {
                int which = tape.byteAt(place) - first;
                if (!isWithin(which, least, count - 1)) {
                    break;
                }
                set |= 1 << which;
                least = which + 1;
                place++;
            }
            return set;
        }
    }

    private static final class Piece {
        private final int kind;
        private final int corner;
        private final int length;
        private final int needs;
        private final int days;

        Piece(int kind, int corner, int length, int needs, int days) {
            this.kind = kind;
            this.corner = corner;
            this.length = length;
            this.needs = needs;
            this.days = days;
        }

        boolean isOfKind(int asked) {
            return asked == kind || asked == PIECE || (asked == TURN && kind == END);
        }

        /** Whether it can be told there, if it was not heard. */
        boolean fits(int where, int heard, int day) {
            if (corner != where || (days >> day & 1) == 0) {
                return false;
            }
            if (kind == TURN || kind == END) {
                return needs == 0 || (needs & heard) != 0;
            }
            return (needs & ~heard) == 0;
        }
    }

    /** The pieces of one story as it was read. */
    private static final class Edition {
        private final Piece[] pieces = new Piece[MOST_PIECES];
        private int pieceCount = 0;
        private int ends = 0;

        void addPiece(Piece added) {
            if (added.kind == END) {
                ends |= 1 << pieceCount;
            }
            pieces[pieceCount] = added;
            pieceCount++;
        }

        /** The piece of that number, or null if there is none such. */
        Piece findPiece(int number) {
            return isWithin(number, 0, pieceCount - 1) ? pieces[number] : null;
        }

        int allPieces() {
            return (1 << pieceCount) - 1;
        }

        boolean isOver(int heard) {
            return (heard & ends) != 0;
        }

        /** The least piece, from a number on, that can be told; or -1. */
        int nextPiece(int from, int corner, int heard, int day) {
            for (int n = from; n < pieceCount; n++) {
                if (!has(heard, n) && pieces[n].fits(corner, heard, day)) {
                    return n;
                }
            }
            return -1;
        }

        boolean hasTwoVoices(int corner, int heard, int day) {
            int first = nextPiece(0, corner, heard, day);
            return first >= 0 && nextPiece(first + 1, corner, heard, day) >= 0;
        }
    }

    /** One who goes through the town with the edition that was the latest at the beginning. */
    private static final class Walker {
        private final Edition edition;
        private final int editionNumber;
        private final boolean stairs;
        private int corner = 0;
        private int heard = 0;
        private int time = 0;
        private int lastTold = -1;
        private int sighted = -1;
        private int sightings = 0;

        Walker(Edition edition, int editionNumber, boolean stairs) {
            this.edition = edition;
            this.editionNumber = editionNumber;
            this.stairs = stairs;
        }

        boolean isOver() {
            return edition.isOver(heard);
        }

        /** Is told what can be told where it is: how many pieces. */
        int listen(int day) {
            int count = 0;
            for (int n = 0; n < MOST_PIECES && !isOver(); n++) {
                int next = edition.nextPiece(0, corner, heard, day);
                Piece piece = edition.findPiece(next);
                if (piece == null) {
                    break;
                }
                heard |= 1 << next;
                time += piece.length;
                lastTold = next;
                count++;
            }
            return count;
        }

        /** Is at a corner: how many pieces it is told there. */
        int arrive(int at, int day) {
            corner = at;
            forgetSightings();
            return listen(day);
        }

        void takeReading(Town town, int day, int x, int y, int doubt) {
            int possible = town.possibleCorners(x, y, doubt);
            if (has(possible, corner)) {
                forgetSightings();
            } else if (Integer.bitCount(possible) == 1) {
                sight(town, day, Integer.numberOfTrailingZeros(possible));
            }
        }

        private void sight(Town town, int day, int alone) {
            if (alone != sighted) {
                sighted = alone;
                sightings = 0;
            }
            sightings++;
            int sure = town.isJoined(corner, alone, day, stairs) ? 2 : 4;
            if (sightings >= sure) {
                arrive(alone, day);
            }
        }

        private void forgetSightings() {
            sighted = -1;
            sightings = 0;
        }
    }

    /** The steps from corner to corner that are open on one day, with stairs or without. */
    private static final class Net {
        /** By corner and corner: the length of the shortest way that joins them, or NEVER. */
        private final int[] steps = new int[MOST_CORNERS * MOST_CORNERS];
        /** By corner: the set of corners that are one step away. */
        private final int[] neighbours = new int[MOST_CORNERS];

        void lay(Town town, int day, boolean stairs) {
            Arrays.fill(steps, NEVER);
            Arrays.fill(neighbours, 0);
            for (int n = 0; n < town.wayCount; n++) {
                Way way = town.ways[n];
                if (way.isOpen(day, stairs)) {
                    join(way.a, way.b, way.length);
                    join(way.b, way.a, way.length);
                }
            }
        }

        private void join(int from, int to, int length) {
            int at = from * MOST_CORNERS + to;
            steps[at] = Math.min(steps[at], length);
            neighbours[from] |= 1 << to;
        }

        int step(int from, int to) {
            return steps[from * MOST_CORNERS + to];
        }

        /**
         * Lessens the times of the movers (a set of corners) to the least that steps make of the
         * times of all; the times are those from the base on, one for each corner.
         */
        void lessen(int[] times, int base, int movers) {
            boolean lessened = movers != 0;
            // No shortest chain of steps is longer than there are corners.
            for (int round = 0; round < MOST_CORNERS && lessened; round++) {
                lessened = false;
                for (int from = 0; from < MOST_CORNERS; from++) {
                    if (has(movers, from) && lessenOne(times, base, from)) {
                        lessened = true;
                    }
                }
            }
        }

        private boolean lessenOne(int[] times, int base, int from) {
            int least = times[base + from];
            for (int to = 0; to < MOST_CORNERS; to++) {
                if (has(neighbours[from], to)) {
                    least = Math.min(least, step(from, to) + times[base + to]);
                }
            }
            boolean lessened = least < times[base + from];
            times[base + from] = least;
            return lessened;
        }
    }

    /**
     * The moments that can be come to from one, and the least time from each to an end. A moment
     * is a set of pieces heard and a corner. As sets only grow, and a greater set is a greater
     * number, one pass upward finds all moments, and one pass downward times them.
     */
    private static final class Search {
        private final Net net = new Net();
        private final int[] distances = new int[MOST_CORNERS];
        /** By set of pieces heard: the set of corners of moments that can be come to. */
        private int[] reached = new int[1];
        /** By set and corner: the least time to an end, or NEVER. Told of reached moments only. */
        private int[] times = new int[MOST_CORNERS];
        private Edition edition = new Edition();
        private int day = 0;
        private int firstSet = 0;
        private int setCount = 1;

        /** The least sum of lengths from a corner to another one, or NEVER. */
        int distance(Town town, int from, int to, int onDay, boolean stairs) {
            net.lay(town, onDay, stairs);
            Arrays.fill(distances, NEVER);
            distances[to] = 0;
            net.lessen(distances, 0, ~(1 << to));
            return distances[from];
        }

        void explore(Town town, Edition read, int corner, int heard, int onDay, boolean stairs) {
            net.lay(town, onDay, stairs);
            edition = read;
            day = onDay;
            firstSet = heard;
            setCount = 1 << read.pieceCount;
            clearReached();
            reached[heard] = 1 << corner;
            for (int set = firstSet; set < setCount; set++) {
                reachFrom(set);
            }
            for (int set = setCount - 1; set >= firstSet; set--) {
                timeSet(set);
            }
        }

        /** The rows grow with the editions alone, so that small stories take little room. */
        private void clearReached() {
            if (reached.length < setCount) {
                reached = new int[setCount];
                times = new int[setCount * MOST_CORNERS];
            }
            for (int set = 0; set < setCount; set++) {
                reached[set] = 0;
            }
        }

        private void reachFrom(int set) {
            if (edition.isOver(set)) {
                return;
            }
            int done = 0;
            for (int round = 0; round < MOST_CORNERS && done != reached[set]; round++) {
                for (int corner = 0; corner < MOST_CORNERS; corner++) {
                    if (has(reached[set] & ~done, corner)) {
                        done |= 1 << corner;
                        reachNext(set, corner);
                    }
                }
            }
        }

        private void reachNext(int set, int corner) {
            int next = edition.nextPiece(0, corner, set, day);
            if (next >= 0) {
                reached[set | 1 << next] |= 1 << corner;
            } else {
                reached[set] |= net.neighbours[corner];
            }
        }

        private void timeSet(int set) {
            int movers = 0;
            for (int corner = 0; corner < MOST_CORNERS; corner++) {
                if (has(reached[set], corner)) {
                    int time = timeToldHere(set, corner);
                    if (time < 0) {
                        movers |= 1 << corner;
                        time = NEVER;
                    }
                    times[set * MOST_CORNERS + corner] = time;
                }
            }
            net.lessen(times, set * MOST_CORNERS, movers);
        }

        /** The time to an end of a moment in which one stays; -1 if one goes on from it. */
        private int timeToldHere(int set, int corner) {
            if (edition.isOver(set)) {
                return 0;
            }
            int next = edition.nextPiece(0, corner, set, day);
            Piece piece = edition.findPiece(next);
            if (piece == null) {
                return -1;
            }
            return Math.min(NEVER, piece.length + timeFrom(corner, set | 1 << next));
        }

        /** The least time to an end from a moment that was reached, or NEVER. */
        int timeFrom(int corner, int heard) {
            return times[heard * MOST_CORNERS + corner];
        }

        /** The same by a step to another corner, that step's length included; NEVER without one. */
        int timeBy(int from, int to, int heard) {
            if (!has(net.neighbours[from], to)) {
                return NEVER;
            }
            return Math.min(NEVER, net.step(from, to) + timeFrom(to, heard));
        }

        int countMoments() {
            int count = 0;
            for (int set = firstSet; set < setCount; set++) {
                count += Integer.bitCount(reached[set]);
            }
            return count;
        }

        int countDeadEnds() {
            int count = 0;
            for (int set = firstSet; set < setCount; set++) {
                for (int corner = 0; corner < MOST_CORNERS; corner++) {
                    if (has(reached[set], corner) && timeFrom(corner, set) >= NEVER) {
                        count++;
                    }
                }
            }
            return count;
        }

        int countTwoVoices() {
            int count = 0;
            for (int set = firstSet; set < setCount; set++) {
                for (int corner = 0; corner < MOST_CORNERS; corner++) {
                    if (has(reached[set], corner) && !edition.isOver(set)
                            && edition.hasTwoVoices(corner, set, day)) {
                        count++;
                    }
                }
            }
            return count;
        }

        int heardInSome() {
            int heard = 0;
            for (int set = firstSet; set < setCount; set++) {
                if (reached[set] != 0) {
                    heard |= set;
                }
            }
            return heard;
        }

        /** Corner i to which the quickest walk from the first moment goes, or -1 behind the last. */
        int cornerOnQuickest(int start, int i) {
            int corner = start;
            int heard = firstSet;
            int gone = 0;
            // The quickest walk comes to no moment twice.
            for (int n = 0; n < setCount * MOST_CORNERS && !edition.isOver(heard); n++) {
                int next = edition.nextPiece(0, corner, heard, day);
                if (next >= 0) {
                    heard |= 1 << next;
                    continue;
                }
                int to = quickestStep(corner, heard);
                if (to < 0 || gone == i) {
                    return to;
                }
                corner = to;
                gone++;
            }
            return -1;
        }

        /** The least corner by which the quickest walk from a moment may go, or -1. */
        private int quickestStep(int from, int heard) {
            for (int to = 0; to < MOST_CORNERS; to++) {
                int time = timeBy(from, to, heard);
                if (time < NEVER && time == timeFrom(from, heard)) {
                    return to;
                }
            }
            return -1;
        }
    }

    /** A row of numbers of 8, 16 or 32 bits each. */
    private static final class Sheet {
        private final int bits;
        private final int[] numbers;

        Sheet(int bits, int count) {
            this.bits = bits;
            this.numbers = new int[Math.max(count, 0)];
        }

        /** The number that the lowest bits of a value make, with its sign, as byte, short, int. */
        int lowestBits(int value) {
            int spare = 32 - bits;
            return value << spare >> spare;
        }

        boolean hasRange(int from, int count) {
            return from >= 0 && count >= 0 && count <= numbers.length - from;
        }
    }
}
