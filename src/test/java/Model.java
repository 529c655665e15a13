import java.util.ArrayList;
import java.util.Comparator;
import java.util.HashSet;
import java.util.List;
import java.util.Set;
import java.util.function.ToIntFunction;
import java.util.regex.Matcher;
import java.util.regex.Pattern;
import java.util.stream.Collectors;
import java.util.stream.IntStream;

/** The document once more, slowly, with things that never change: what the program is held against. */
final class Model {
    record Person(char kind, int figure, int cell, int belief) {
        boolean believes() {
            return belief >= 5;
        }

        Person kind(char other) {
            return new Person(other, figure, cell, belief);
        }

        Person figure(int other) {
            return new Person(kind, other, cell, belief);
        }

        Person cell(int other) {
            return new Person(kind, figure, other, belief);
        }

        Person belief(int other) {
            return new Person(kind, figure, cell, other);
        }
    }

    record World(List<Integer> depths, List<Person> people, int year) {
        int here() {
            int most = depths.stream().max(Comparator.naturalOrder()).orElse(0);
            return depths.indexOf(most);
        }

        World with(int i, Person p) {
            List<Person> all = new ArrayList<>(people);
            all.set(i, p);
            return new World(depths, all, year);
        }

        World without(int bits) {
            List<Person> all = new ArrayList<>();
            for (int i = 0; i < people.size(); i++) {
                if ((bits & 1 << i) == 0) {
                    all.add(people.get(i));
                }
            }
            return new World(depths, all, year);
        }

        World and(Person p) {
            List<Person> all = new ArrayList<>(people);
            all.add(p);
            return new World(depths, all, year);
        }

        World depth(int cell, int v) {
            List<Integer> all = new ArrayList<>(depths);
            all.set(cell, v);
            return new World(all, people, year);
        }

        int believers() {
            return (int) people.stream().filter(Person::believes).count();
        }

        boolean all() {
            return people.stream().allMatch(Person::believes);
        }

        List<Person> beside(int i) {
            return IntStream.range(0, people.size())
                    .filter(j -> j != i && steps(people.get(i).cell, people.get(j).cell) <= 2)
                    .mapToObj(people::get).collect(Collectors.toList());
        }

        int guest(int i) {
            List<Person> near = beside(i);
            int yes = (int) near.stream().filter(Person::believes).count();
            int no = near.size() - yes;
            int own = people.get(i).belief;
            return yes > no ? own + 1 : yes < no ? own - 1 : own;
        }

        int friend(int i) {
            Person p = people.get(i);
            return guest(i) + (steps(p.cell, here()) <= p.figure ? 1 : 0);
        }

        int child(int i) {
            return beside(i).stream().mapToInt(Person::belief).max().orElse(people.get(i).belief);
        }

        int next(int i) {
            int raw;
            switch (people.get(i).kind) {
                case 'g': raw = guest(i); break;
                case 'f': raw = friend(i); break;
                case 'c': raw = child(i); break;
                case 's': raw = guest(i) - 1; break;
                case 'o': raw = Math.max(people.get(i).belief, friend(i)); break;
                default: raw = child(i) + 1; break;
            }
            return raw < 0 ? 0 : raw > 9 ? 9 : raw;
        }

        World year(boolean wind) {
            int here = here();
            int digging = (int) people.stream().filter(p -> p.believes() && steps(p.cell, here) <= 2).count();
            List<Integer> dug = new ArrayList<>();
            for (int c = 0; c < 25; c++) {
                dug.add(c != here ? Math.max(0, depths.get(c) - 1)
                        : wind ? depths.get(c) : Math.min(99, depths.get(c) + digging));
            }
            List<Person> moved = new ArrayList<>();
            for (int i = 0; i < people.size(); i++) {
                Person p = people.get(i).belief(next(i));
                moved.add(p.believes() ? p.cell(toward(p.cell, here)) : p);
            }
            return new World(dug, moved, year + 1);
        }

        World years(int n) {
            World w = this;
            for (int i = 0; i < n; i++) {
                w = w.year(false);
            }
            return w;
        }
    }

    static int steps(int a, int b) {
        return Math.abs(a / 5 - b / 5) + Math.abs(a % 5 - b % 5);
    }

    static int toward(int cell, int here) {
        int r = cell / 5, c = cell % 5, hr = here / 5, hc = here % 5;
        if (r < hr) {
            r++;
        } else if (r > hr) {
            r--;
        } else if (c < hc) {
            c++;
        } else if (c > hc) {
            c--;
        }
        return 5 * r + c;
    }

    private static final String KINDS = "gfcsod";

    private World now = new World(new ArrayList<>(java.util.Collections.nCopies(25, 0)), new ArrayList<>(), 0);
    private World image = null;
    private String text = "";
    private final List<Integer> row = new ArrayList<>();
    private final int[] refused = new int[7];

    private static final class Refusal extends RuntimeException {
        private static final long serialVersionUID = 1;
        final int number;

        Refusal(int number) {
            this.number = number;
        }
    }

    private static void unless(boolean fine, int number) {
        if (!fine) {
            throw new Refusal(number);
        }
    }

    long call(String name, int... a) {
        try {
            return answer(name, a);
        } catch (Refusal r) {
            refused[-r.number]++;
            switch (name) {
                case "stranger": return 1000000000L - r.number;
                case "wind":
                case "mean": return 4000000000000000000L - r.number;
                default: return r.number;
            }
        }
    }

    private void person(int i) {
        unless(i >= 0 && i < now.people.size(), -1);
    }

    private void cell(int c) {
        unless(c >= 0 && c < 25, -1);
    }

    private static void what(int w, int many) {
        unless(w >= 0 && w < many, -2);
    }

    private static void within(int v, int least, int most) {
        unless(v >= least, -4);
        unless(v <= most, -6);
    }

    private int bits(java.util.function.IntPredicate p) {
        return IntStream.range(0, now.people.size()).filter(p).map(i -> 1 << i).sum();
    }

    private long answer(String name, int... a) {
        switch (name) {
            case "letter":
                within(a[0], 0, 255);
                unless(text.length() < 96, -6);
                text += (char) a[0];
                return text.length();
            case "slope": {
                String t = text;
                text = "";
                return slope(t);
            }
            case "depth": cell(a[0]); return now.depths.get(a[0]);
            case "person": person(a[0]); what(a[1], 7); return personAnswer(a[0], a[1]);
            case "place": return now.here();
            case "digs": {
                cell(a[0]);
                within(a[1], 0, 99);
                int was = now.depths.get(a[0]);
                now = now.depth(a[0], a[1]);
                return was;
            }
            case "believes": {
                person(a[0]);
                within(a[1], 0, 9);
                int was = now.people.get(a[0]).belief;
                now = now.with(a[0], now.people.get(a[0]).belief(a[1]));
                return was;
            }
            case "sits": {
                person(a[0]);
                cell(a[1]);
                int was = now.people.get(a[0]).cell;
                now = now.with(a[0], now.people.get(a[0]).cell(a[1]));
                return was;
            }
            case "turn": {
                person(a[0]);
                what(a[1], 6);
                within(a[2], 0, 9);
                Person p = now.people.get(a[0]);
                now = now.with(a[0], p.kind(KINDS.charAt(a[1])).figure(a[2]));
                return 10L * KINDS.indexOf(p.kind) + p.figure;
            }
            case "years":
                within(a[0], 1, 60);
                unless(now.year + a[0] <= 999, -6);
                now = now.years(a[0]);
                return now.believers();
            case "behind": {
                person(a[0]);
                within(a[1], 0, 60);
                what(a[2], 2);
                Person p = now.years(a[1]).people.get(a[0]);
                return a[2] == 0 ? p.belief : p.cell;
            }
            case "then":
                within(a[0], 0, 60);
                what(a[1], 2);
                return a[1] == 0 ? now.years(a[0]).here() : now.years(a[0]).believers();
            case "depthThen": cell(a[0]); within(a[1], 0, 60); return now.years(a[1]).depths.get(a[0]);
            case "first": what(a[0], 4); return first(a[0]);
            case "image": image = now; return now.year;
            case "on": unless(image != null, -3); now = image; return now.year;
            case "count": return count(a[0]);
            case "row":
                within(a[0], 0, 99);
                unless(row.size() < 16, -6);
                row.add(a[0]);
                return row.size();
            case "clear": {
                int had = row.size();
                row.clear();
                return had;
            }
            default: return question(name, a);
        }
    }

    private long question(String name, int... a) {
        switch (name) {
            case "makes": within(a[0], 0, 20); return makes(a[0]);
            case "leaves": within(a[0], 0, 20); return leaves(a[0]);
            case "ask": {
                within(a[0], 0, 60);
                int best = best(i -> now.with(i, now.people.get(i).belief(9)).years(a[0]).believers());
                boolean more = best >= 0 && now.with(best, now.people.get(best).belief(9)).years(a[0]).believers()
                        > now.years(a[0]).believers();
                return more ? best : -9;
            }
            case "sit": person(a[0]); within(a[1], 0, 20); what(a[2], 2); return sit(a[0], a[1], a[2]);
            case "doubt":
                within(a[0], 0, 60);
                return best(i -> -now.with(i, now.people.get(i).kind('s')).years(a[0]).believers());
            case "stranger": {
                within(a[0], 0, 60);
                int many = now.people.size();
                if (many == 8) {
                    return -9;
                }
                World later = now.and(new Person('g', 0, 24, 9)).years(a[0]);
                return later.without(1 << many).believers() - now.years(a[0]).believers();
            }
            case "nearest": return best(i -> -steps(now.people.get(i).cell, now.here()));
            case "passed": {
                within(a[0], 0, 60);
                return IntStream.range(0, a[0]).map(k -> now.years(k).people.stream()
                        .filter(Person::believes).mapToInt(Person::figure).sum()).sum();
            }
            case "heard": person(a[0]); return chain(a[0]);
            case "groups": {
                what(a[0], 2);
                Set<Integer> chains = new HashSet<>();
                bits(i -> chains.add(chain(i)));
                return a[0] == 0 ? chains.size() : chains.stream().mapToInt(Integer::bitCount).max().orElse(0);
            }
            case "middle": {
                what(a[0], 2);
                ToIntFunction<Integer> far = c -> now.people.stream().mapToInt(p -> steps(p.cell, c)).sum();
                int cell = IntStream.range(0, 25).boxed().min(Comparator.comparingInt(far)).orElse(0);
                return a[0] == 0 ? cell : far.applyAsInt(cell);
            }
            case "wind": {
                unless(a[0] >= 0 && a[1] >= 2, -4);
                unless(a[0] <= 7 && a[1] <= 20, -6);
                what(a[2], 2);
                return fraction(wind(now, a[0], a[1]), Math.round(Math.pow(a[1], a[0])), a[2]);
            }
            case "mean":
                what(a[0], 2);
                return fraction(now.people.stream().mapToInt(Person::belief).sum(), now.people.size(), a[0]);
            case "two": person(a[0]); person(a[1]); unless(a[0] != a[1], -1); within(a[2], 0, 60); return two(a);
            case "whatIs": {
                person(a[0]);
                what(a[1], 2);
                Person p = now.people.get(a[0]);
                return IntStream.range(0, a[1] == 0 ? 6 : 10)
                        .filter(v -> tells(now.with(a[0], a[1] == 0 ? p.kind(KINDS.charAt(v)) : p.figure(v)),
                                w -> w.people.get(a[0]).belief))
                        .map(v -> 1 << v).sum();
            }
            case "who": return bits(i -> tells(now.without(1 << i), World::believers));
            case "judge": {
                int at = IntStream.range(0, row.size()).filter(k -> row.get(k) != now.years(k).here())
                        .findFirst().orElse(-9);
                row.clear();
                return at;
            }
            case "lots": within(a[0], 1, 20); what(a[2], 2); return lots(a);
            default: throw new IllegalArgumentException(name);
        }
    }

    private boolean tells(World w, ToIntFunction<World> what) {
        return IntStream.range(0, row.size()).allMatch(k -> row.get(k) == what.applyAsInt(w.years(k)));
    }

    private int personAnswer(int i, int w) {
        Person p = now.people.get(i);
        int[] all = {KINDS.indexOf(p.kind), p.figure, p.cell, p.belief, now.beside(i).size(),
            (int) now.beside(i).stream().filter(Person::believes).count(), now.next(i)};
        return all[w];
    }

    private int first(int w) {
        for (int n = 0; n <= 60; n++) {
            World later = now.years(n);
            boolean so = w == 0 ? later.all() : w == 1 ? later.believers() == 0
                    : w == 2 ? later.people.equals(later.year(false).people) : later.here() != now.here();
            if (so) {
                return n;
            }
        }
        return -9;
    }

    private int fewest(java.util.function.IntPredicate p) {
        return IntStream.range(0, 1 << now.people.size()).filter(p).boxed()
                .min(Comparator.<Integer>comparingInt(Integer::bitCount).thenComparingInt(b -> b)).orElse(-9);
    }

    private int makes(int n) {
        return fewest(b -> {
            World w = now;
            for (int i = 0; i < now.people.size(); i++) {
                w = (b & 1 << i) != 0 ? w.with(i, w.people.get(i).belief(9)) : w;
            }
            return w.years(n).all();
        });
    }

    private int leaves(int n) {
        return fewest(b -> now.without(b).years(n).believers() == 0);
    }

    private int best(java.util.function.IntUnaryOperator worth) {
        int best = -9;
        for (int i = now.people.size() - 1; i >= 0; i--) {
            if (best < 0 || worth.applyAsInt(i) >= worth.applyAsInt(best)) {
                best = i;
            }
        }
        return best;
    }

    private int sit(int i, int n, int w) {
        int[] after = IntStream.range(0, 25)
                .map(c -> now.with(i, now.people.get(i).cell(c)).years(n).people.get(i).belief).toArray();
        int most = IntStream.of(after).max().orElse(0);
        return w == 1 ? most : IntStream.range(0, 25).filter(c -> after[c] == most).findFirst().orElse(0);
    }

    private int chain(int i) {
        int bits = 1 << i;
        while (true) {
            int known = bits;
            int more = bits(j -> IntStream.range(0, now.people.size()).anyMatch(k -> (known & 1 << k) != 0
                    && steps(now.people.get(k).cell, now.people.get(j).cell) <= 2));
            if ((bits | more) == bits) {
                return bits;
            }
            bits |= more;
        }
    }

    private static long wind(World w, int n, int t) {
        if (n == 0) {
            return w.all() ? 1 : 0;
        }
        return wind(w.year(true), n - 1, t) + (t - 1) * wind(w.year(false), n - 1, t);
    }

    private static long fraction(long above, long below, int part) {
        if (above == 0) {
            return part;
        }
        long g = java.math.BigInteger.valueOf(above).gcd(java.math.BigInteger.valueOf(below)).longValue();
        return (part == 0 ? above : below) / g;
    }

    private int two(int[] a) {
        int[][] v = new int[2][2];
        for (int i = 0; i < 2; i++) {
            for (int j = 0; j < 2; j++) {
                World w = now.with(a[0], now.people.get(a[0]).belief(9 * i));
                v[i][j] = w.with(a[1], w.people.get(a[1]).belief(9 * j)).years(a[2]).believers();
            }
        }
        for (int k = 0; k < 4; k++) {
            if (v[k / 2][k % 2] >= v[1 - k / 2][k % 2] && v[k / 2][k % 2] <= v[k / 2][1 - k % 2]) {
                return 10 * (k / 2) + k % 2;
            }
        }
        return -9;
    }

    private int z;

    private int draw(int m) {
        z = (int) (z * 1664525L + 1013904223L);
        return (int) (((z & 0x7fffffffL) >> 8) % m);
    }

    private int lots(int[] a) {
        z = a[1];
        int sum = 0;
        for (int k = 0; k < a[0]; k++) {
            World w = now;
            for (int i = 0; i < now.people.size(); i++) {
                Person p = w.people.get(i).cell(draw(25));
                w = w.with(i, p.belief(draw(10)));
            }
            w = w.years(10);
            sum += a[2] == 0 ? w.believers() : w.people.stream().mapToInt(Person::belief).sum();
        }
        return sum;
    }

    private int count(int w) {
        switch (w) {
            case 0: return now.people.size();
            case 1: return now.year;
            case 2: return bits(i -> now.people.get(i).believes());
            case 3: return now.people.stream().mapToInt(Person::belief).sum();
            case 4: return now.depths.stream().mapToInt(d -> d).sum();
            case 5: return now.here();
            case 6: return row.size();
            case 7: return text.length();
            default: return w >= 11 && w <= 16 ? refused[w - 10] : -9;
        }
    }

    private static final Pattern STATEMENT =
            Pattern.compile("p[gfcsod]\\d{4};|h\\d{4};|b\\d{2};|a\\d{3};|y\\d{2};");

    private static boolean whole(String t) {
        return t.matches("(" + STATEMENT.pattern() + ")+");
    }

    /** Whether a text can go on to a whole one: some end of at most eight letters makes it so. */
    private static boolean hopeful(String t) {
        for (String end : new String[] {"", ";", "0;", "00;", "000;", "0000;", "g0000;", "pg0000;"}) {
            if (whole(t + end)) {
                return true;
            }
        }
        return false;
    }

    private int slope(String t) {
        for (int i = 0; i < t.length(); i++) {
            if (!hopeful(t.substring(0, i + 1))) {
                return -1000 - i;
            }
        }
        if (!whole(t)) {
            return -1000 - t.length();
        }
        World w = now;
        int many = 0;
        Matcher m = STATEMENT.matcher(t);
        while (m.find()) {
            w = statement(w, m.group());
            if (w == null) {
                return -2000 - m.start();
            }
            many++;
        }
        now = w;
        return many;
    }

    private static World statement(World w, String s) {
        int d = s.charAt(s.length() - 2) - '0';
        switch (s.charAt(0)) {
            case 'p': {
                int c = Integer.parseInt(s.substring(3, 5));
                return c > 24 || w.people.size() == 8 ? null : w.and(new Person(s.charAt(1), s.charAt(2) - '0', c, d));
            }
            case 'h': {
                int c = Integer.parseInt(s.substring(1, 3));
                return c > 24 ? null : w.depth(c, Integer.parseInt(s.substring(3, 5)));
            }
            case 'b': {
                int i = s.charAt(1) - '0';
                return i >= w.people.size() ? null : w.with(i, w.people.get(i).belief(d));
            }
            case 'a': {
                int i = s.charAt(1) - '0';
                int c = Integer.parseInt(s.substring(2, 4));
                return i >= w.people.size() || c > 24 ? null : w.with(i, w.people.get(i).cell(c));
            }
            default: {
                int n = Integer.parseInt(s.substring(1, 3));
                return n < 1 || n > 60 || w.year + n > 999 ? null : w.years(n);
            }
        }
    }
}
