import java.math.BigInteger;
import java.util.ArrayDeque;
import java.util.ArrayList;
import java.util.Collections;
import java.util.HashMap;
import java.util.HashSet;
import java.util.List;
import java.util.Map;
import java.util.Set;
import java.util.TreeSet;
import java.util.regex.Matcher;
import java.util.regex.Pattern;

/** The document once more, in the plainest way and at any cost, to compare the class with. */
final class Oracle {
    static final int UNKNOWN = -1, OUTSIDE = -2, STATE = -3, FULL = -4, NONE = -9;
    private static final Pattern BEGUN = Pattern.compile("(C(K[0-3]|B[12][0-9][0-9])*(K|B[12]?|B[12][0-9])?)?");
    private static final Pattern WHOLE = Pattern.compile("C(K[0-3]|B[12][0-9][0-9])*");

    /** Where things stand; a new one for whatever changes. */
    private static final class Stand {
        List<Integer> row = new ArrayList<>();
        Map<Integer, Integer> hours = new HashMap<>();
        List<Integer> laws = new ArrayList<>();
        Map<Integer, Integer> tea = new HashMap<>();
        Map<List<Integer>, Integer> given = new HashMap<>();
        int passed;

        Stand copy() {
            Stand copy = new Stand();
            copy.row = new ArrayList<>(row);
            copy.hours = new HashMap<>(hours);
            copy.laws = new ArrayList<>(laws);
            copy.tea = new HashMap<>(tea);
            copy.given = new HashMap<>(given);
            copy.passed = passed;
            return copy;
        }

        int givenBy(int barge, int lock) {
            return given.getOrDefault(List.of(barge, lock), 0);
        }

        Stand with(int barge, int lock, int loads) {
            Stand copy = copy();
            copy.given.merge(List.of(barge, lock), loads, Integer::sum);
            return copy;
        }
    }

    private String text = "";
    private List<int[]> barges = new ArrayList<>();
    private Stand now = new Stand();
    private final ArrayDeque<Stand> acts = new ArrayDeque<>();
    private final Map<Integer, Stand> slots = new HashMap<>();
    private BigInteger seed = BigInteger.ZERO;

    int write(int letter) {
        if (letter < 0 || letter > 255) return OUTSIDE;
        if (text.length() == 40) return FULL;
        text += (char) letter;
        return text.length();
    }

    int wipe() {
        int length = text.length();
        text = "";
        return length;
    }

    private static boolean mayBecomeCanal(String begun) {
        return BEGUN.matcher(begun).matches()
                && begun.chars().filter(c -> c == 'K').count() <= 5
                && begun.chars().filter(c -> c == 'B').count() <= 6;
    }

    int fault() {
        for (int i = 0; i < text.length(); i++) {
            if (!mayBecomeCanal(text.substring(0, i + 1))) return i;
        }
        return WHOLE.matcher(text).matches() ? NONE : text.length();
    }

    int canal() {
        if (fault() != NONE) return STATE;
        now = new Stand();
        barges = new ArrayList<>();
        acts.clear();
        slots.clear();
        Matcher part = Pattern.compile("K(.)|B(.)(.)(.)").matcher(text);
        while (part.find()) {
            if (part.group(1) != null) {
                now.laws.add(Integer.parseInt(part.group(1)));
            } else {
                int number = barges.size();
                barges.add(new int[] {Integer.parseInt(part.group(2)), Integer.parseInt(part.group(3))});
                now.row.add(number);
                now.hours.put(number, 0);
                now.tea.put(number, Integer.parseInt(part.group(4)));
            }
        }
        return 10 * locks() + barges.size();
    }

    private int locks() {
        return now.laws.size();
    }

    private boolean noBarge(int barge) {
        return barge < 0 || barge >= barges.size();
    }

    private boolean noLock(int lock) {
        return lock < 0 || lock >= locks();
    }

    private static int figures(List<Integer> row) {
        int figures = 0;
        for (int barge : row) figures = figures * 10 + barge + 1;
        return figures;
    }

    private List<List<Integer>> chambers(List<Integer> row) {
        List<List<Integer>> chambers = new ArrayList<>();
        for (int barge : row) {
            List<Integer> last = chambers.isEmpty() ? List.of() : chambers.get(chambers.size() - 1);
            boolean fits = last.size() == 1 && barges.get(last.get(0))[0] == 1 && barges.get(barge)[0] == 1;
            if (fits) last.add(barge);
            else chambers.add(new ArrayList<>(List.of(barge)));
        }
        return chambers;
    }

    private Stand through(Stand from) {
        Stand to = from.copy();
        int lock = from.passed;
        to.row.clear();
        int ahead = 0;
        for (List<Integer> chamber : chambers(from.row)) {
            int hour = ahead;
            for (int barge : chamber) hour = Math.max(hour, from.hours.get(barge));
            ahead = hour + 1;
            for (int barge : chamber) to.hours.put(barge, ahead);
            if (chamber.size() == 2) {
                int a = chamber.get(0);
                int b = chamber.get(1);
                int law = from.laws.get(lock);
                if (law == 1 || law == 2 && barges.get(b)[1] < barges.get(a)[1]
                        || law == 3 && from.givenBy(b, lock) > from.givenBy(a, lock)) {
                    Collections.reverse(chamber);
                }
            }
            to.row.addAll(chamber);
        }
        to.passed++;
        return to;
    }

    private Stand atBasin(Stand from) {
        return from.passed == from.laws.size() ? from : atBasin(through(from));
    }

    private void act(Stand then) {
        acts.addLast(now);
        if (acts.size() > 14) acts.removeFirst();
        now = then;
    }

    int barge(int barge, int what) {
        if (noBarge(barge)) return UNKNOWN;
        if (what == 0 || what == 1) return barges.get(barge)[what];
        if (what == 2) return now.tea.get(barge);
        if (what == 3) return now.row.indexOf(barge);
        if (what == 4) return now.hours.get(barge);
        return OUTSIDE;
    }

    int lock(int lock, int what) {
        if (noLock(lock)) return UNKNOWN;
        if (what == 0) return now.laws.get(lock);
        if (what == 1) return lock < now.passed ? 1 : 0;
        if (what != 2) return OUTSIDE;
        int sum = 0;
        for (int barge = 0; barge < barges.size(); barge++) sum += now.givenBy(barge, lock);
        return sum;
    }

    int pass() {
        if (now.passed == locks()) return STATE;
        act(through(now));
        return figures(now.row);
    }

    int give(int barge, int lock) {
        if (noBarge(barge) || noLock(lock)) return UNKNOWN;
        if (now.tea.get(barge) == 0 || lock < now.passed) return STATE;
        Stand then = now.with(barge, lock, 1);
        then.tea.merge(barge, -1, Integer::sum);
        act(then);
        return now.givenBy(barge, lock);
    }

    int letBy(int barge) {
        if (noBarge(barge)) return UNKNOWN;
        int place = now.row.indexOf(barge);
        if (place == now.row.size() - 1) return STATE;
        Stand then = now.copy();
        Collections.swap(then.row, place, place + 1);
        act(then);
        return now.row.indexOf(barge);
    }

    int learn(int lock, int law) {
        if (noLock(lock)) return UNKNOWN;
        if (law < 0 || law > 3) return OUTSIDE;
        if (lock < now.passed || now.laws.get(lock) == law) return STATE;
        Stand then = now.copy();
        int was = then.laws.set(lock, law);
        act(then);
        return was;
    }

    int undo() {
        if (acts.isEmpty()) return STATE;
        now = acts.removeLast();
        return acts.size();
    }

    int basin() {
        return figures(atBasin(now).row);
    }

    int hour(int barge) {
        return noBarge(barge) ? UNKNOWN : atBasin(now).hours.get(barge);
    }

    int gains(int barge) {
        if (noBarge(barge)) return UNKNOWN;
        int bits = 0;
        for (Stand s = now; s.passed < locks(); s = through(s)) {
            if (through(s).row.indexOf(barge) < s.row.indexOf(barge)) bits += 1 << s.passed;
        }
        return bits;
    }

    int mates(int barge) {
        if (noBarge(barge)) return UNKNOWN;
        Set<Integer> mates = new HashSet<>();
        for (Stand s = now; s.passed < locks(); s = through(s)) {
            for (List<Integer> chamber : chambers(s.row)) {
                if (chamber.contains(barge)) mates.addAll(chamber);
            }
        }
        mates.remove(barge);
        return mates.stream().mapToInt(mate -> 1 << mate).sum();
    }

    private static List<List<Integer>> orders(List<Integer> of) {
        if (of.isEmpty()) return List.of(List.of());
        List<List<Integer>> orders = new ArrayList<>();
        for (int i = 0; i < of.size(); i++) {
            List<Integer> others = new ArrayList<>(of);
            int head = others.remove(i);
            for (List<Integer> rest : orders(others)) {
                List<Integer> order = new ArrayList<>(List.of(head));
                order.addAll(rest);
                orders.add(order);
            }
        }
        return orders;
    }

    private boolean suits(Stand from, int one, int other) {
        List<Integer> end = atBasin(from).row;
        return end.get(0) == one && end.get(end.size() - 1) != other;
    }

    int first(int one, int other) {
        if (noBarge(one) || noBarge(other)) return UNKNOWN;
        if (one == other) return OUTSIDE;
        TreeSet<Integer> found = new TreeSet<>();
        for (List<Integer> order : orders(now.row)) {
            Stand might = now.copy();
            might.row = order;
            if (suits(might, one, other)) found.add(figures(order));
        }
        return found.isEmpty() ? NONE : found.first();
    }

    int tea(int one, int other, boolean row) {
        if (noBarge(one) || noBarge(other)) return UNKNOWN;
        if (one == other) return OUTSIDE;
        for (int loads = 0; loads <= 2; loads++) {
            TreeSet<Integer> rows = new TreeSet<>();
            giveAll(now, loads, 1, one, other, rows);
            if (!rows.isEmpty()) return row ? rows.first() : loads;
        }
        return NONE;
    }

    private void giveAll(Stand from, int loads, int told, int one, int other, Set<Integer> rows) {
        if (loads == 0) {
            if (suits(from, one, other)) rows.add(told);
            return;
        }
        for (int barge = 0; barge < barges.size(); barge++) {
            for (int lock = now.passed; lock < locks() && from.tea.get(barge) > 0; lock++) {
                Stand then = from.with(barge, lock, 1);
                then.tea.merge(barge, -1, Integer::sum);
                giveAll(then, loads - 1, 100 * told + 10 * barge + lock, one, other, rows);
            }
        }
    }

    int judge(int n, int row) {
        if (n < 1 || n > 6 || row < 0 || String.valueOf(row).length() > n) return OUTSIDE;
        String told = "0".repeat(n - String.valueOf(row).length()) + row;
        String end = barges.isEmpty() ? "" : String.valueOf(basin());
        for (int i = 0; i < n; i++) {
            if (i >= end.length() || end.charAt(i) != told.charAt(i)) return i;
        }
        return NONE;
    }

    private int lastHour(Set<Integer> come) {
        Stand s = now.copy();
        s.row.retainAll(come);
        s.hours.replaceAll((barge, hour) -> 0);
        Stand end = atBasin(s);
        return end.row.stream().mapToInt(end.hours::get).max().orElse(0);
    }

    int share(int barge, boolean upper) {
        if (noBarge(barge)) return UNKNOWN;
        Map<Set<Integer>, Integer> hours = new HashMap<>();
        BigInteger sum = BigInteger.ZERO;
        List<List<Integer>> orders = orders(now.row);
        for (List<Integer> order : orders) {
            Set<Integer> before = new HashSet<>(order.subList(0, order.indexOf(barge)));
            Set<Integer> after = new HashSet<>(before);
            after.add(barge);
            if (!hours.containsKey(before)) hours.put(before, lastHour(before));
            if (!hours.containsKey(after)) hours.put(after, lastHour(after));
            sum = sum.add(BigInteger.valueOf(hours.get(after) - hours.get(before)));
        }
        return fraction(sum, BigInteger.valueOf(orders.size()), upper);
    }

    private static int fraction(BigInteger above, BigInteger below, boolean upper) {
        BigInteger common = above.gcd(below);
        return (upper ? above : below).divide(common).intValue();
    }

    int gave(int lock, int row, int what) {
        if (noLock(lock)) return UNKNOWN;
        if (what < 0 || what > 2 || orders(now.row).stream().noneMatch(order -> figures(order) == row)) return OUTSIDE;
        if (lock < now.passed) return STATE;
        List<Integer> sets = new ArrayList<>();
        for (int set = 0; set < 1 << barges.size(); set++) {
            Stand s = now.copy();
            s.laws.set(lock, 3);
            for (int barge = 0; barge < barges.size(); barge++) {
                if ((set >> barge) % 2 == 1) s = s.with(barge, lock, 1);
            }
            while (s.passed <= lock) s = through(s);
            if (figures(s.row) == row) sets.add(set);
        }
        if (what == 0) return sets.size();
        if (sets.isEmpty()) return NONE;
        int bits = 0;
        for (int barge = 0; barge < barges.size(); barge++) {
            int number = barge;
            long in = sets.stream().filter(set -> (set >> number) % 2 == 1).count();
            if (in == (what == 1 ? sets.size() : 0)) bits += 1 << barge;
        }
        return bits;
    }

    private int loss(int barge, int loads, int one, int a, int other, int b, int lock) {
        List<Integer> end = atBasin(now.with(one, lock, a).with(other, lock, b)).row;
        return 4 * end.indexOf(barge) + loads;
    }

    int rests(int one, int other, int lock, int what) {
        if (noBarge(one) || noBarge(other) || noLock(lock)) return UNKNOWN;
        if (one == other || what < 0 || what > 1) return OUTSIDE;
        if (lock < now.passed) return STATE;
        List<Integer> rests = new ArrayList<>();
        for (int pair = 0; pair < 16; pair++) {
            int a = pair / 4;
            int b = pair % 4;
            boolean rest = true;
            for (int c = 0; c < 4; c++) {
                if (loss(one, c, one, c, other, b, lock) < loss(one, a, one, a, other, b, lock)) rest = false;
                if (loss(other, c, one, a, other, c, lock) < loss(other, b, one, a, other, b, lock)) rest = false;
            }
            if (rest) rests.add(10 * a + b);
        }
        if (what == 0) return rests.size();
        return rests.isEmpty() ? NONE : Collections.min(rests);
    }

    /** The chance in parts of 10 for each lock left. */
    private BigInteger chance(Stand from, int barge, int place, int x) {
        if (from.passed == locks()) return from.row.indexOf(barge) == place ? BigInteger.ONE : BigInteger.ZERO;
        Stand asleep = from.copy();
        asleep.laws.set(from.passed, 0);
        return chance(through(asleep), barge, place, x).multiply(BigInteger.valueOf(x))
                .add(chance(through(from), barge, place, x).multiply(BigInteger.valueOf(10 - x)));
    }

    int asleep(int barge, int place, int x, boolean upper) {
        if (noBarge(barge)) return UNKNOWN;
        if (place < 0 || place >= barges.size() || x < 0 || x > 10) return OUTSIDE;
        return fraction(chance(now, barge, place, x), BigInteger.TEN.pow(locks() - now.passed), upper);
    }

    long seed(long v) {
        long was = seed.longValue();
        seed = BigInteger.valueOf(v).mod(BigInteger.ONE.shiftLeft(64));
        return was;
    }

    int days(int barge, int m) {
        if (noBarge(barge)) return UNKNOWN;
        if (m < 1 || m > 30) return OUTSIDE;
        int often = 0;
        for (int i = 0; i < m; i++) {
            seed = seed.multiply(new BigInteger("6364136223846793005")).add(new BigInteger("1442695040888963407"))
                    .mod(BigInteger.ONE.shiftLeft(64));
            int bits = seed.shiftRight(33).intValueExact() % 64;
            Stand s = now;
            for (int b = 0; b < barges.size(); b++) {
                for (int lock = now.passed; lock < locks() && (bits >> b) % 2 == 1; lock++) s = s.with(b, lock, 1);
            }
            if (atBasin(s).row.get(0) == barge) often++;
        }
        return often;
    }

    int keep(int slot) {
        if (slot < 0 || slot > 1) return UNKNOWN;
        slots.put(slot, now);
        return now.passed;
    }

    int again(int slot) {
        if (slot < 0 || slot > 1) return UNKNOWN;
        if (!slots.containsKey(slot)) return STATE;
        now = slots.get(slot);
        acts.clear();
        return now.passed;
    }

    int count(int what) {
        int[] counts = {text.length(), locks(), barges.size(), now.passed, figures(now.row),
            now.tea.values().stream().mapToInt(Integer::intValue).sum(),
            now.given.values().stream().mapToInt(Integer::intValue).sum(),
            acts.size(), atBasin(now).hours.values().stream().mapToInt(Integer::intValue).max().orElse(0)};
        return what < 0 || what > 8 ? OUTSIDE : counts[what];
    }
}
