import java.util.ArrayList;
import java.util.Collections;
import java.util.Comparator;
import java.util.HashMap;
import java.util.HashSet;
import java.util.LinkedHashSet;
import java.util.List;
import java.util.Map;
import java.util.PriorityQueue;
import java.util.Set;
import java.util.TreeSet;
import java.util.regex.Matcher;
import java.util.regex.Pattern;

/**
 * The document told a second time, as plainly as the Java library allows and by other means than
 * the program's: texts by a regular expression, moments as records, walks as lists of corners.
 */
final class PlainTeller {
    private static final String LETTERS = "pste";

    private record Place(int x, int y) { }

    private record Moment(int corner, Set<Integer> heard) {
        Moment hear(int piece) {
            Set<Integer> more = new HashSet<>(heard);
            more.add(piece);
            return new Moment(corner, more);
        }

        Moment to(int other) {
            return new Moment(other, heard);
        }
    }

    private record Part(char kind, int corner, int length, Set<Integer> needs, Set<Integer> days) { }

    private record Walk(Moment at, int time, List<Integer> corners) { }

    private static final class Path {
        int a;
        int b;
        int length;
        boolean stairs;
        int shut;
    }

    private static final class Person {
        int edition;
        boolean stairs;
        Moment at;
        int time;
        int last = -1;
        List<Integer> sights = new ArrayList<>();
    }

    private final List<Place> corners = new ArrayList<>();
    private final List<Path> ways = new ArrayList<>();
    private final List<List<Part>> editions = new ArrayList<>();
    private final List<Person> people = new ArrayList<>();
    private final StringBuilder tape = new StringBuilder();
    private final Object[] sheets = new Object[4];
    private int today = 0;
    private int findings = 0;

    private int find(int finding) {
        findings++;
        return finding;
    }

    private static boolean in(int number, int count) {
        return 0 <= number && number < count;
    }

    private static int bits(Set<Integer> set) {
        int bits = 0;
        for (int member : set) {
            bits += 1 << member;
        }
        return bits;
    }

    // ---- the town

    int corner(int x, int y) {
        if (!in(x, 100) || !in(y, 100)) return find(Due.BEYOND);
        if (corners.size() == 8) return find(Due.FULL);
        corners.add(new Place(x, y));
        return corners.size() - 1;
    }

    int way(int a, int b, int length, boolean stairs) {
        if (!in(a, corners.size()) || !in(b, corners.size()) || a == b) return find(Due.BEYOND);
        if (!in(length - 1, 20)) return find(Due.BEYOND);
        if (ways.size() == 14) return find(Due.FULL);
        Path path = new Path();
        path.a = a;
        path.b = b;
        path.length = length;
        path.stairs = stairs;
        ways.add(path);
        return ways.size() - 1;
    }

    int shut(int way, int days) {
        if (!in(way, ways.size()) || !in(days, 128)) return find(Due.BEYOND);
        int was = ways.get(way).shut;
        ways.get(way).shut = days;
        return was;
    }

    private static int other(Path path, int corner) {
        return path.a == corner ? path.b : path.b == corner ? path.a : -1;
    }

    private static boolean open(Path path, int day, boolean stairs) {
        return (path.shut & 1 << day) == 0 && (stairs || !path.stairs);
    }

    /** The least sum over all paths that visit no corner twice. */
    int far(int a, int b, int day, boolean stairs) {
        if (!in(a, corners.size()) || !in(b, corners.size()) || !in(day, 7)) return find(Due.BEYOND);
        int least = farBeyond(a, b, day, stairs, new HashSet<>());
        return least == Integer.MAX_VALUE ? find(Due.NONE) : least;
    }

    private int farBeyond(int a, int b, int day, boolean stairs, Set<Integer> been) {
        if (a == b) return 0;
        int least = Integer.MAX_VALUE;
        been.add(a);
        for (Path path : ways) {
            int next = other(path, a);
            if (next < 0 || been.contains(next) || !open(path, day, stairs)) continue;
            int more = farBeyond(next, b, day, stairs, been);
            if (more != Integer.MAX_VALUE) least = Math.min(least, path.length + more);
        }
        been.remove(a);
        return least;
    }

    // ---- stories

    int feed(long w, int n) {
        if (!in(n - 1, 8)) return find(Due.BEYOND);
        if (tape.length() + n > 200) return find(Due.FULL);
        for (int k = 0; k < n; k++) {
            tape.append((char) (w >>> 8 * k & 255));
        }
        return tape.length();
    }

    int story() {
        String text = tape.toString();
        tape.setLength(0);
        int wrong = wrong(text);
        if (wrong >= 0) return find(Due.WRONG - wrong);
        if (editions.size() == 4) return find(Due.FULL);
        List<Part> parts = new ArrayList<>();
        for (String part : text.split(";")) {
            parts.add(part(part));
        }
        editions.add(parts);
        return editions.size() - 1;
    }

    /** The first place up to which (it included) no good text begins so; -1 if the text is good. */
    private int wrong(String text) {
        if (corners.isEmpty()) return 0;
        String corner = "[0-" + (corners.size() - 1) + "]";
        String needs = "[1-9]a?b?c?d?e?f?g?h?i?j?k?l?";
        String days = "(@(0?1?2?3?4?5?6|0?1?2?3?4?5|0?1?2?3?4|0?1?2?3|0?1?2|0?1|0))?";
        String one = "(" + corner + "[pte]" + needs + ";|" + corner + "s" + needs + days + ";)";
        Pattern good = Pattern.compile(one + "{1,12}");
        for (int end = 1; end <= text.length(); end++) {
            Matcher matcher = good.matcher(text.substring(0, end));
            if (!matcher.matches() && !matcher.hitEnd()) return end - 1;
        }
        return good.matcher(text).matches() ? -1 : text.length();
    }

    private static Part part(String text) {
        Set<Integer> needs = new TreeSet<>();
        Set<Integer> days = new TreeSet<>();
        int at = text.indexOf('@');
        for (char sign : text.substring(3, at < 0 ? text.length() : at).toCharArray()) {
            needs.add(sign - 'a');
        }
        for (char sign : (at < 0 ? "0123456" : text.substring(at + 1)).toCharArray()) {
            days.add(sign - '0');
        }
        return new Part(text.charAt(1), text.charAt(0) - '0', text.charAt(2) - '0', needs, days);
    }

    private boolean isPart(int edition, int piece) {
        return in(edition, editions.size()) && in(piece, editions.get(edition).size());
    }

    int as(int edition, int piece, int kind) {
        if (!isPart(edition, piece) || !in(kind, 4)) return find(Due.BEYOND);
        String[] kinds = {"p", "ps", "pt", "pte"};
        String above = kinds[LETTERS.indexOf(editions.get(edition).get(piece).kind())];
        return above.indexOf(LETTERS.charAt(kind)) >= 0 ? piece : find(Due.KIND);
    }

    int of(int edition, int piece, int what) {
        if (!isPart(edition, piece) || !in(what, 5)) return find(Due.BEYOND);
        Part part = editions.get(edition).get(piece);
        int[] all = {LETTERS.indexOf(part.kind()), part.corner(), part.length(), bits(part.needs()),
            bits(part.days())};
        return all[what];
    }

    // ---- moments

    private static boolean over(List<Part> story, Moment moment) {
        return moment.heard().stream().anyMatch(piece -> story.get(piece).kind() == 'e');
    }

    private static List<Integer> can(List<Part> story, Moment moment, int day) {
        List<Integer> can = new ArrayList<>();
        for (int piece = 0; piece < story.size(); piece++) {
            Part part = story.get(piece);
            boolean one = part.kind() == 't' || part.kind() == 'e';
            boolean met = one
                ? part.needs().isEmpty() || !Collections.disjoint(part.needs(), moment.heard())
                : moment.heard().containsAll(part.needs());
            if (part.corner() == moment.corner() && !moment.heard().contains(piece)
                && part.days().contains(day) && met) {
                can.add(piece);
            }
        }
        return can;
    }

    /** The walks by one more act. */
    private List<Walk> next(List<Part> story, Walk walk, int day, boolean stairs) {
        List<Walk> next = new ArrayList<>();
        if (over(story, walk.at())) return next;
        List<Integer> can = can(story, walk.at(), day);
        if (!can.isEmpty()) {
            int piece = can.get(0);
            int time = walk.time() + story.get(piece).length();
            next.add(new Walk(walk.at().hear(piece), time, walk.corners()));
            return next;
        }
        for (Path path : ways) {
            int to = other(path, walk.at().corner());
            if (to < 0 || !open(path, day, stairs)) continue;
            List<Integer> gone = new ArrayList<>(walk.corners());
            gone.add(to);
            next.add(new Walk(walk.at().to(to), walk.time() + path.length, gone));
        }
        return next;
    }

    private Set<Moment> all(List<Part> story, Moment from, int day, boolean stairs) {
        Set<Moment> all = new LinkedHashSet<>();
        List<Moment> todo = new ArrayList<>(List.of(from));
        while (!todo.isEmpty()) {
            Moment moment = todo.remove(todo.size() - 1);
            if (!all.add(moment)) continue;
            for (Walk walk : next(story, new Walk(moment, 0, List.of()), day, stairs)) {
                todo.add(walk.at());
            }
        }
        return all;
    }

    private static int compareCorners(List<Integer> one, List<Integer> two) {
        for (int n = 0; n < Math.min(one.size(), two.size()); n++) {
            if (!one.get(n).equals(two.get(n))) return one.get(n) - two.get(n);
        }
        return one.size() - two.size();
    }

    /** The first walk to an end, by time and then by its corners; null if there is none. */
    private Walk quick(List<Part> story, Moment from, int day, boolean stairs) {
        Comparator<Walk> order = Comparator.comparingInt(Walk::time);
        order = order.thenComparing((one, two) -> compareCorners(one.corners(), two.corners()));
        PriorityQueue<Walk> queue = new PriorityQueue<>(order);
        Set<Moment> been = new HashSet<>();
        queue.add(new Walk(from, 0, List.of()));
        Walk best = null;
        while (!queue.isEmpty()) {
            Walk walk = queue.remove();
            if (best != null && walk.time() > best.time()) break;
            if (!been.add(walk.at())) continue;
            if (over(story, walk.at()) && (best == null || order.compare(walk, best) < 0)) best = walk;
            queue.addAll(next(story, walk, day, stairs));
        }
        return best;
    }

    private boolean isStart(int edition, int corner, int day) {
        return in(edition, editions.size()) && in(corner, corners.size()) && in(day, 7);
    }

    int check(int edition, int corner, int day, boolean stairs, int what) {
        if (!isStart(edition, corner, day) || !in(what, 4)) return find(Due.BEYOND);
        List<Part> story = editions.get(edition);
        Set<Moment> all = all(story, new Moment(corner, Set.of()), day, stairs);
        int[] count = {all.size(), 0, 0, 0};
        Map<Moment, Boolean> ends = ends(story, all, day, stairs);
        for (Moment moment : all) {
            if (!over(story, moment) && !ends.get(moment)) count[1]++;
            if (!over(story, moment) && can(story, moment, day).size() >= 2) count[2]++;
            count[3] |= bits(moment.heard());
        }
        return count[what];
    }

    /** Which of the moments lead to an over one: grown from those until nothing more comes. */
    private Map<Moment, Boolean> ends(List<Part> story, Set<Moment> all, int day, boolean stairs) {
        Map<Moment, Boolean> ends = new HashMap<>();
        for (Moment moment : all) {
            ends.put(moment, over(story, moment));
        }
        boolean more = true;
        while (more) {
            more = false;
            for (Moment moment : all) {
                if (ends.get(moment)) continue;
                for (Walk walk : next(story, new Walk(moment, 0, List.of()), day, stairs)) {
                    if (ends.get(walk.at())) {
                        ends.put(moment, true);
                        more = true;
                    }
                }
            }
        }
        return ends;
    }

    int quickest(int edition, int corner, int day, boolean stairs) {
        if (!isStart(edition, corner, day)) return find(Due.BEYOND);
        Walk walk = quick(editions.get(edition), new Moment(corner, Set.of()), day, stairs);
        return walk == null ? find(Due.NONE) : walk.time();
    }

    int route(int edition, int corner, int day, boolean stairs, int i) {
        if (!isStart(edition, corner, day) || i < 0) return find(Due.BEYOND);
        Walk walk = quick(editions.get(edition), new Moment(corner, Set.of()), day, stairs);
        if (walk == null) return find(Due.NONE);
        return i < walk.corners().size() ? walk.corners().get(i) : -1;
    }

    // ---- walkers

    private List<Part> storyOf(Person person) {
        return editions.get(person.edition);
    }

    private boolean over(Person person) {
        return over(storyOf(person), person.at);
    }

    private int settle(Person person) {
        int count = 0;
        while (!over(person) && !can(storyOf(person), person.at, today).isEmpty()) {
            person.last = can(storyOf(person), person.at, today).get(0);
            person.time += storyOf(person).get(person.last).length();
            person.at = person.at.hear(person.last);
            count++;
        }
        return count;
    }

    int walker(int corner, boolean stairs) {
        if (!in(corner, corners.size())) return find(Due.BEYOND);
        if (editions.isEmpty()) return find(Due.STATE);
        if (people.size() == 6) return find(Due.FULL);
        Person person = new Person();
        person.edition = editions.size() - 1;
        person.stairs = stairs;
        person.at = new Moment(corner, Set.of());
        settle(person);
        people.add(person);
        return people.size() - 1;
    }

    int today(int day) {
        if (!in(day, 7)) return find(Due.BEYOND);
        int was = today;
        today = day;
        people.forEach(this::settle);
        return was;
    }

    int go(int walker, int way) {
        if (!in(walker, people.size()) || !in(way, ways.size())) return find(Due.BEYOND);
        Person person = people.get(walker);
        Path path = ways.get(way);
        if (over(person)) return find(Due.STATE);
        int to = other(path, person.at.corner());
        if (to < 0 || (path.shut & 1 << today) != 0) return find(Due.NONE);
        if (path.stairs && !person.stairs) return find(Due.KIND);
        person.time += path.length;
        person.at = person.at.to(to);
        person.sights.clear();
        return settle(person);
    }

    /** Not of the face: whether a going by that way would be one, for a run that gets about. */
    boolean leadsOn(int walker, int way) {
        if (!in(walker, people.size()) || !in(way, ways.size())) return false;
        Person person = people.get(walker);
        Path path = ways.get(way);
        return other(path, person.at.corner()) >= 0 && open(path, today, person.stairs);
    }

    int about(int walker, int what) {
        if (!in(walker, people.size()) || !in(what, 6)) return find(Due.BEYOND);
        Person person = people.get(walker);
        int[] all = {person.at.corner(), bits(person.at.heard()), person.time, person.edition,
            over(person) ? 1 : 0, person.last};
        return all[what];
    }

    int offer(int walker) {
        if (!in(walker, people.size())) return find(Due.BEYOND);
        Person person = people.get(walker);
        if (over(person)) return find(Due.STATE);
        List<int[]> offers = new ArrayList<>();
        for (Path path : ways) {
            int to = other(path, person.at.corner());
            if (to < 0 || !open(path, today, person.stairs)) continue;
            Walk walk = quick(storyOf(person), person.at.to(to), today, person.stairs);
            if (walk == null) continue;
            int there = 0;
            for (Person one : people) {
                if (one != person && one.at.corner() == to && !over(one)) there++;
            }
            offers.add(new int[] {there, path.length + walk.time(), to});
        }
        if (offers.isEmpty()) return find(Due.NONE);
        offers.sort((one, two) -> java.util.Arrays.compare(one, two));
        return offers.get(0)[2];
    }

    int rest(int walker) {
        if (!in(walker, people.size())) return find(Due.BEYOND);
        Person person = people.get(walker);
        Walk walk = quick(storyOf(person), person.at, today, person.stairs);
        return walk == null ? find(Due.NONE) : walk.time();
    }

    int lost(int walker) {
        if (!in(walker, people.size())) return find(Due.BEYOND);
        Person person = people.get(walker);
        Set<Integer> lost = new HashSet<>();
        for (int piece = 0; piece < storyOf(person).size(); piece++) {
            lost.add(piece);
        }
        for (Moment moment : all(storyOf(person), person.at, today, person.stairs)) {
            lost.removeAll(moment.heard());
        }
        return bits(lost);
    }

    int seen(int walker, int x, int y, int doubt) {
        if (!in(walker, people.size()) || !in(doubt, 31)) return find(Due.BEYOND);
        Person person = people.get(walker);
        if (over(person)) return find(Due.STATE);
        read(person, x, y, doubt);
        return person.at.corner();
    }

    private void read(Person person, long x, long y, long doubt) {
        List<Integer> possible = new ArrayList<>();
        for (int n = 0; n < corners.size(); n++) {
            Place place = corners.get(n);
            if (Math.abs(place.x() - x) <= doubt && Math.abs(place.y() - y) <= doubt) possible.add(n);
        }
        int here = person.at.corner();
        if (possible.contains(here)) {
            person.sights.clear();
            return;
        }
        if (possible.size() != 1) return;
        int alone = possible.get(0);
        person.sights.removeIf(sight -> sight != alone);
        person.sights.add(alone);
        boolean led = false;
        for (Path path : ways) {
            led |= other(path, here) == alone && open(path, today, person.stairs);
        }
        if (person.sights.size() < (led ? 2 : 4)) return;
        person.sights.clear();
        person.at = person.at.to(alone);
        settle(person);
    }

    // ---- sheets: rows of the machine's own numbers

    private static int size(Object sheet) {
        return java.lang.reflect.Array.getLength(sheet);
    }

    private static int number(Object sheet, int i) {
        return java.lang.reflect.Array.getInt(sheet, i);
    }

    int sheet(int s, int bits, int n) {
        if (!in(s, 4) || !Set.of(0, 8, 16, 32).contains(bits)) return find(Due.BEYOND);
        if (n < 0) return find(Due.SIZE);
        if (n > 12) return find(Due.BEYOND);
        if (bits == 0) {
            sheets[s] = null;
            return 0;
        }
        sheets[s] = bits == 8 ? new byte[n] : bits == 16 ? new short[n] : new int[n];
        return n;
    }

    int write(int s, int i, int v) {
        if (!in(s, 4)) return find(Due.BEYOND);
        if (sheets[s] == null) return find(Due.MISSING);
        if (!in(i, size(sheets[s]))) return find(Due.BEYOND);
        int was = number(sheets[s], i);
        if (sheets[s] instanceof byte[] row) row[i] = (byte) v;
        if (sheets[s] instanceof short[] row) row[i] = (short) v;
        if (sheets[s] instanceof int[] row) row[i] = v;
        return was;
    }

    int copy(int s, int from, int t, int to, int n) {
        if (!in(s, 4) || !in(t, 4)) return find(Due.BEYOND);
        try {
            System.arraycopy(sheets[s], from, sheets[t], to, n);
            return n;
        } catch (NullPointerException missing) {
            return find(Due.MISSING);
        } catch (ArrayStoreException kind) {
            return find(Due.KIND);
        } catch (IndexOutOfBoundsException beyond) {
            return find(Due.BEYOND);
        }
    }

    int trace(int s, int walker) {
        if (!in(s, 4) || !in(walker, people.size())) return find(Due.BEYOND);
        Object sheet = sheets[s];
        if (sheet == null) return find(Due.MISSING);
        int count = 0;
        while (3 * count + 2 < size(sheet)) {
            int doubt = number(sheet, 3 * count + 2);
            if (over(people.get(walker)) || !in(doubt, 31)) break;
            read(people.get(walker), number(sheet, 3 * count), number(sheet, 3 * count + 1), doubt);
            count++;
        }
        return count;
    }

    int told(int what) {
        int[] all = {corners.size(), ways.size(), editions.size(), people.size(), today,
            tape.length(), findings};
        return in(what, 7) ? all[what] : find(Due.BEYOND);
    }
}
