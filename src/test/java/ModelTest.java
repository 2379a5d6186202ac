import java.util.Random;

/** All promises: random runs of 512 calls, each answer compared with the plain teller's. */
public final class ModelTest {
    private static final int RUNS = 400;
    private static final int CALLS = 512;
    private static final int[] EDGES = {Integer.MIN_VALUE, -1000001, -129, -1, 0, 1, 2, 3, 4, 5, 6, 7, 8, 9,
        12, 13, 14, 20, 21, 30, 31, 99, 100, 127, 128, 200, 255, 32768, 65536, 1 << 30, Integer.MAX_VALUE};
    private static final Due D = new Due();

    private final Random random;
    private final WalkTeller teller = new WalkTeller();
    private final PlainTeller plain = new PlainTeller();
    private final String run;
    private final int mostPieces;
    private int made = 0;

    private ModelTest(long seed) {
        random = new Random(seed);
        run = "run " + seed + " call ";
        mostPieces = 1 + random.nextInt(seed % 20 == 0 ? 12 : 8);
    }

    public static void main(String[] args) {
        long first = args.length > 0 ? Long.parseLong(args[0]) : 1;
        int runs = args.length > 1 ? Integer.parseInt(args[1]) : RUNS;
        for (long seed = first; seed < first + runs; seed++) {
            new ModelTest(seed).play();
        }
        D.end();
    }

    private void play() {
        layTown();
        for (int n = 0; n < 4; n++) {
            sheet();
        }
        while (made < CALLS) {
            act();
        }
    }

    private void due(String call, int got, int want) {
        made++;
        D.due(run + made + " " + call, got, want);
    }

    /** Mostly a number below the count, at times one of the edges. */
    private int pick(int count) {
        if (random.nextInt(40) == 0) {
            return EDGES[random.nextInt(EDGES.length)];
        }
        return random.nextInt(Math.max(1, count));
    }

    private boolean coin() {
        return random.nextBoolean();
    }

    private void layTown() {
        int corners = 2 + random.nextInt(7);
        for (int n = 0; n < corners; n++) {
            corner();
        }
        if (random.nextInt(3) > 0) {
            joinAll();
        }
        int ways = random.nextInt(9);
        for (int n = 0; n < ways; n++) {
            way();
        }
        text();
    }

    private void joinAll() {
        for (int b = 1; b < corners(); b++) {
            int a = random.nextInt(b);
            int length = 1 + random.nextInt(4);
            due("way(" + a + ", " + b + ")", teller.way(a, b, length, false), plain.way(a, b, length, false));
        }
    }

    private int corners() {
        return plain.told(0);
    }

    private void act() {
        switch (random.nextInt(30)) {
            case 0: if (random.nextInt(8) == 0) corner(); else far(); break;
            case 1: if (random.nextInt(4) == 0) way(); else far(); break;
            case 2: case 3: shut(); break;
            case 4: if (random.nextInt(3) == 0) text(); else wrongText(); break;
            case 5: feed(); break;
            case 6: as(); break;
            case 7: of(); break;
            case 8: case 9: check(); break;
            case 10: quickest(); break;
            case 11: case 12: route(); break;
            case 13: walker(); break;
            case 14: today(); break;
            case 15: case 16: go(); break;
            case 17: case 18: about(); break;
            case 19: case 20: offer(); break;
            case 21: rest(); break;
            case 22: lost(); break;
            case 23: case 24: seen(); break;
            case 25: sheet(); break;
            case 26: write(); break;
            case 27: copy(); break;
            case 28: trace(); break;
            default: told(); break;
        }
    }

    private void corner() {
        int x = pick(100);
        int y = pick(100);
        due("corner(" + x + ", " + y + ")", teller.corner(x, y), plain.corner(x, y));
    }

    private void way() {
        int a = pick(corners());
        int b = pick(corners());
        int length = coin() ? 1 + pick(3) : 1 + pick(20);
        boolean stairs = random.nextInt(4) == 0;
        due("way(" + a + ", " + b + ", " + length + ", " + stairs + ")",
            teller.way(a, b, length, stairs), plain.way(a, b, length, stairs));
    }

    private void shut() {
        int way = pick(plain.told(1));
        int days = random.nextInt(5) == 0 ? pick(128) : 1 << random.nextInt(8) & 127;
        due("shut(" + way + ", " + days + ")", teller.shut(way, days), plain.shut(way, days));
    }

    private void far() {
        int a = pick(corners());
        int b = pick(corners());
        int day = pick(7);
        boolean stairs = coin();
        due("far(" + a + ", " + b + ", " + day + ", " + stairs + ")",
            teller.far(a, b, day, stairs), plain.far(a, b, day, stairs));
    }

    private void feed() {
        long w = random.nextLong();
        int n = coin() ? 1 : pick(10);
        due("feed(" + w + ", " + n + ")", teller.feed(w, n), plain.feed(w, n));
    }

    private void feedAndRead(String text) {
        byte[] bytes = text.getBytes(java.nio.charset.StandardCharsets.ISO_8859_1);
        for (int at = 0; at < bytes.length; ) {
            int count = Math.min(1 + random.nextInt(8), bytes.length - at);
            long w = Due.word(bytes, at, count);
            due("feed(" + w + ", " + count + ")", teller.feed(w, count), plain.feed(w, count));
            at += count;
        }
        due("story() of " + text, teller.story(), plain.story());
    }

    private String piece(int number) {
        StringBuilder text = new StringBuilder();
        int kind = random.nextInt(8);
        text.append(random.nextInt(Math.max(1, corners())));
        text.append("pptsteee".charAt(kind)).append(1 + random.nextInt(9));
        for (int need = 0; need < 12; need++) {
            boolean ahead = need >= number;
            if (random.nextInt(ahead ? 60 : 3) == 0) text.append((char) ('a' + need));
        }
        if (kind == 3 && coin()) {
            text.append('@').append(new int[] {0, 3, 16, 246, 135}[random.nextInt(5)]);
        }
        return text.append(';').toString();
    }

    private String story() {
        StringBuilder text = new StringBuilder();
        int pieces = 1 + random.nextInt(mostPieces);
        for (int n = 0; n < pieces; n++) {
            text.append(piece(n));
        }
        return text.toString();
    }

    private void text() {
        if (plain.told(5) > 0) {
            due("story()", teller.story(), plain.story());
        }
        feedAndRead(story());
    }

    private void wrongText() {
        StringBuilder text = new StringBuilder(story());
        if (random.nextInt(10) == 0) {
            text.append("0p1;".repeat(13));
        }
        int at = random.nextInt(text.length());
        String signs = "0123456789pstexabcdefghijklm@;;;\u00ff";
        char sign = signs.charAt(random.nextInt(signs.length()));
        switch (random.nextInt(4)) {
            case 0: text.setLength(at); break;
            case 1: text.deleteCharAt(at); break;
            case 2: text.insert(at, sign); break;
            default: text.setCharAt(at, sign); break;
        }
        feedAndRead(text.toString());
    }

    private void as() {
        int edition = pick(plain.told(2));
        int piece = pick(mostPieces);
        int kind = pick(4);
        due("as(" + edition + ", " + piece + ", " + kind + ")",
            teller.as(edition, piece, kind), plain.as(edition, piece, kind));
    }

    private void of() {
        int edition = pick(plain.told(2));
        int piece = pick(mostPieces);
        int what = pick(5);
        due("of(" + edition + ", " + piece + ", " + what + ")",
            teller.of(edition, piece, what), plain.of(edition, piece, what));
    }

    private void check() {
        int edition = pick(plain.told(2));
        int corner = pick(corners());
        int day = pick(7);
        boolean stairs = coin();
        int what = pick(4);
        due("check(" + edition + ", " + corner + ", " + day + ", " + stairs + ", " + what + ")",
            teller.check(edition, corner, day, stairs, what),
            plain.check(edition, corner, day, stairs, what));
    }

    private void quickest() {
        int edition = pick(plain.told(2));
        int corner = pick(corners());
        int day = pick(7);
        boolean stairs = coin();
        due("quickest(" + edition + ", " + corner + ", " + day + ", " + stairs + ")",
            teller.quickest(edition, corner, day, stairs), plain.quickest(edition, corner, day, stairs));
    }

    private void route() {
        int edition = pick(plain.told(2));
        int corner = pick(corners());
        int day = pick(7);
        boolean stairs = coin();
        int i = pick(6);
        due("route(" + edition + ", " + corner + ", " + day + ", " + stairs + ", " + i + ")",
            teller.route(edition, corner, day, stairs, i), plain.route(edition, corner, day, stairs, i));
    }

    private int someone() {
        return pick(plain.told(3));
    }

    private void walker() {
        int corner = pick(corners());
        boolean stairs = coin();
        due("walker(" + corner + ", " + stairs + ")",
            teller.walker(corner, stairs), plain.walker(corner, stairs));
    }

    private void today() {
        int day = pick(7);
        due("today(" + day + ")", teller.today(day), plain.today(day));
    }

    private void go() {
        int walker = someone();
        int way = pick(plain.told(1));
        // Of a few ways, one that can be gone by, if there is one.
        for (int n = 0; n < 4 && !plain.leadsOn(walker, way); n++) {
            way = pick(plain.told(1));
        }
        due("go(" + walker + ", " + way + ")", teller.go(walker, way), plain.go(walker, way));
    }

    private void about() {
        int walker = someone();
        int what = pick(6);
        due("about(" + walker + ", " + what + ")", teller.about(walker, what), plain.about(walker, what));
    }

    private void offer() {
        int walker = someone();
        due("offer(" + walker + ")", teller.offer(walker), plain.offer(walker));
    }

    private void rest() {
        int walker = someone();
        due("rest(" + walker + ")", teller.rest(walker), plain.rest(walker));
    }

    private void lost() {
        int walker = someone();
        due("lost(" + walker + ")", teller.lost(walker), plain.lost(walker));
    }

    /** The same reading several times, so that walkers are moved by it at times. */
    private void seen() {
        int walker = someone();
        int x = pick(100);
        int y = pick(100);
        int doubt = coin() ? 30 : pick(31);
        for (int n = 1 + random.nextInt(5); n > 0; n--) {
            due("seen(" + walker + ", " + x + ", " + y + ", " + doubt + ")",
                teller.seen(walker, x, y, doubt), plain.seen(walker, x, y, doubt));
        }
    }

    private int bits() {
        return new int[] {8, 16, 32, 32, 8, 16, 32, 0, pick(40)}[random.nextInt(9)];
    }

    private void sheet() {
        int s = pick(4);
        int bits = bits();
        int n = pick(13);
        due("sheet(" + s + ", " + bits + ", " + n + ")", teller.sheet(s, bits, n), plain.sheet(s, bits, n));
    }

    private void write() {
        int s = pick(4);
        int number = random.nextInt(12);
        for (int i = 0; i < number; i++) {
            int v = coin() ? pick(100) : random.nextInt(31);
            due("write(" + s + ", " + i + ", " + v + ")", teller.write(s, i, v), plain.write(s, i, v));
        }
        int i = pick(12);
        int v = random.nextInt();
        due("write(" + s + ", " + i + ", " + v + ")", teller.write(s, i, v), plain.write(s, i, v));
    }

    private void copy() {
        int s = pick(4);
        int from = pick(6);
        int t = coin() ? s : pick(4);
        int to = pick(6);
        int n = pick(6);
        due("copy(" + s + ", " + from + ", " + t + ", " + to + ", " + n + ")",
            teller.copy(s, from, t, to, n), plain.copy(s, from, t, to, n));
    }

    private void trace() {
        int s = pick(4);
        int walker = someone();
        for (int n = 1 + random.nextInt(3); n > 0; n--) {
            due("trace(" + s + ", " + walker + ")", teller.trace(s, walker), plain.trace(s, walker));
        }
        due("about(" + walker + ", 0)", teller.about(walker, 0), plain.about(walker, 0));
    }

    private void told() {
        int what = pick(7);
        due("told(" + what + ")", teller.told(what), plain.told(what));
    }
}
