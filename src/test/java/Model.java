import java.util.ArrayList;
import java.util.HashMap;
import java.util.HashSet;
import java.util.List;
import java.util.Map;
import java.util.Set;
import java.util.TreeSet;

/** A second telling of the document, in objects and sets, to hold OtherNames against. */
final class Model {
    private static final class Person {
        int number;
        int[] marks;
        Person holder;
        boolean struck;

        Person head() {
            return holder == null ? this : holder.head();
        }
    }

    private static final class House {
        int number;
        int kind;
        int span;
        int seed;
        int reasons;
        int least;
        boolean lost;
        final List<Name> names = new ArrayList<>();

        int spanNow(int day) {
            return kind == 0 ? 0 : kind == 1 ? day / span : names.size() + 1;
        }

        Name named(int text) {
            return names.stream().filter(n -> n.text == text).findFirst().orElse(null);
        }

        Set<Person> known() {
            Set<Person> known = new HashSet<>();
            names.forEach(n -> known.add(n.owner.head()));
            known.removeIf(p -> p.struck);
            return known;
        }
    }

    private record Name(House house, int text, Person owner, int day, int span) { }

    private record Bridge(House from, House to, int first, int last) { }

    private final List<Person> people = new ArrayList<>();
    private final List<House> houses = new ArrayList<>();
    private final List<Name> names = new ArrayList<>();
    private final List<Bridge> bridges = new ArrayList<>();
    private final List<int[]> entries = new ArrayList<>();
    private int today;

    private static boolean within(int n, int low, int high) {
        return low <= n && n <= high;
    }

    private static <T> T get(List<T> list, int i) {
        return within(i, 0, list.size() - 1) ? list.get(i) : null;
    }

    int call(String method, int[] a) {
        switch (method) {
            case "person": return person(a);
            case "mark": return mark(a[0], a[1], a[2]);
            case "house": return house(a);
            case "day": return day(a[0]);
            case "one": return one(get(people, a[0]), get(people, a[1]));
            case "part": return part(get(people, a[0]));
            case "strike": return strike(get(people, a[0]));
            case "name": return name(get(houses, a[0]), get(people, a[1]));
            case "leads": return leads(get(houses, a[0]), a[1]);
            case "bridge": return bridge(get(houses, a[0]), get(houses, a[1]), a[2], a[3]);
            case "holds": return holds(get(houses, a[0]), get(houses, a[1]), a[2]);
            case "cross": return cross(get(houses, a[0]), get(houses, a[1]), a[2], a[3]);
            case "back": return back(get(houses, a[0]), a[1], a[2], a[3], a[4]);
            case "lose": return lose(get(houses, a[0]));
            case "anew": return anew(get(houses, a[0]), a[1]);
            case "joins": return joins(get(houses, a[0]), get(houses, a[1]), a[2]);
            case "least": return least(get(houses, a[0]), a[1]);
            case "count": return count(get(houses, a[0]), a[1], a[2]);
            case "record": return get(entries, a[0]) != null && within(a[1], 0, 5) ? entries.get(a[0])[a[1]] : -1;
            case "given": return given(get(names, a[0]), a[1]);
            case "look": return look(get(people, a[0]), a[1]);
            case "tell": return tell(a[0]);
            default: throw new IllegalStateException(method);
        }
    }

    private int person(int[] marks) {
        for (int n : marks) {
            if (!within(n, 0, 7)) {
                return -1;
            }
        }
        if (people.size() == 24) {
            return -1;
        }
        Person p = new Person();
        p.number = people.size();
        p.marks = marks.clone();
        people.add(p);
        return p.number;
    }

    private int mark(int p, int m, int n) {
        if (get(people, p) == null || !within(m, 0, 3) || !within(n, 0, 7)) {
            return 0;
        }
        people.get(p).marks[m] = n;
        return 1;
    }

    private int house(int[] a) {
        boolean fits = within(a[0], 0, 2) && within(a[1], 1, 365) && within(a[2], 1, 9972)
                && within(a[3], 0, 255) && within(a[4], 0, 24);
        if (!fits || houses.size() == 5) {
            return -1;
        }
        House h = new House();
        h.number = houses.size();
        h.kind = a[0];
        h.span = a[1];
        h.seed = a[2];
        h.reasons = a[3];
        h.least = a[4];
        houses.add(h);
        return h.number;
    }

    private int day(int n) {
        if (!within(n, today, 3000)) {
            return 0;
        }
        today = n;
        return 1;
    }

    private int one(Person a, Person b) {
        if (a == null || b == null || a == b || a.holder != null || b.holder != null) {
            return 0;
        }
        b.holder = a;
        spread(a);
        return 1;
    }

    private void spread(Person head) {
        if (people.stream().anyMatch(p -> p.head() == head && p.struck)) {
            people.stream().filter(p -> p.head() == head).forEach(p -> p.struck = true);
        }
    }

    private int part(Person p) {
        if (p == null || p.holder == null) {
            return 0;
        }
        p.holder = null;
        return 1;
    }

    private int strike(Person p) {
        if (p == null || p.struck) {
            return 0;
        }
        p.struck = true;
        spread(p.head());
        return 1;
    }

    private int name(House h, Person p) {
        if (h == null || p == null || p.struck) {
            return -1;
        }
        int span = h.spanNow(today);
        for (Name n : h.names) {
            if (n.span == span && n.owner.head() == p.head()) {
                return n.text;
            }
        }
        if (names.size() == 200) {
            return -1;
        }
        Name n = new Name(h, (int) ((long) h.seed * (h.names.size() + 1) % 9973), p.head(), today, span);
        h.names.add(n);
        names.add(n);
        return n.text;
    }

    private int leads(House h, int text) {
        Name name = h == null ? null : h.named(text);
        if (name == null || h.kind == 2) {
            return name == null ? -1 : text;
        }
        return h.names.stream().filter(n -> n.span == name.span && n.owner.head() == name.owner.head())
                .findFirst().orElseThrow().text;
    }

    private int bridge(House h, House g, int from, int to) {
        if (h == null || g == null || h == g || from < 0 || to > 3000 || to < from || bridges.size() == 20) {
            return 0;
        }
        bridges.add(new Bridge(h, g, from, to));
        return 1;
    }

    private int holds(House h, House g, int day) {
        if (h == null || g == null || h == g || !within(day, 0, 3000)) {
            return -1;
        }
        return bridges.stream().anyMatch(b -> b.from == h && b.to == g && within(day, b.first, b.last)) ? 1 : 0;
    }

    private int cross(House h, House g, int text, int hand) {
        if (h == null || g == null || !within(hand, 0, 9) || entries.size() == 200) {
            return -1;
        }
        Name n = h.named(text);
        boolean can = n != null && !h.lost && holds(h, g, today) == 1 && (h.kind != 1 || n.span == h.spanNow(today));
        int there = can ? name(g, n.owner) : -1;
        entries.add(new int[] {there < 0 ? 2 : 0, h.number, text, hand, -1, today});
        return there;
    }

    private int back(House h, int text, int reason, int a, int b) {
        if (h == null || !within(reason, 0, 7) || !within(a, 0, 9) || !within(b, 0, 9) || entries.size() == 200) {
            return -1;
        }
        Name n = h.named(text);
        boolean can = n != null && a != b && !h.lost && (h.reasons & 1 << reason) != 0 && !n.owner.struck;
        entries.add(new int[] {can ? 1 : 3, h.number, text, a, b, today});
        return can ? n.owner.head().number : -1;
    }

    private int lose(House h) {
        if (h == null || h.lost) {
            return 0;
        }
        h.lost = true;
        return 1;
    }

    private int anew(House h, int seed) {
        if (h == null || !h.lost || h.seed != seed) {
            return 0;
        }
        h.lost = false;
        return 1;
    }

    private static Map<String, Set<Person>> groups(House h, int bits) {
        Map<String, Set<Person>> groups = new HashMap<>();
        for (Person p : h.known()) {
            StringBuilder key = new StringBuilder();
            for (int m = 0; m < 4; m++) {
                key.append((bits & 1 << m) == 0 ? "*" : p.marks[m]).append(',');
            }
            groups.computeIfAbsent(key.toString(), k -> new HashSet<>()).add(p);
        }
        return groups;
    }

    private static Set<Person> alone(House h, int bits) {
        Set<Person> alone = new HashSet<>();
        groups(h, bits).values().stream().filter(g -> g.size() == 1).forEach(alone::addAll);
        return alone;
    }

    private int joins(House h, House g, int bits) {
        if (h == null || g == null || h == g || !within(bits, 0, 15)) {
            return -1;
        }
        Set<Person> both = alone(h, bits);
        both.retainAll(alone(g, bits));
        return both.size();
    }

    private int least(House h, int bits) {
        if (h == null || !within(bits, 0, 15)) {
            return -1;
        }
        TreeSet<Integer> sizes = new TreeSet<>();
        groups(h, bits).values().forEach(g -> sizes.add(g.size()));
        return sizes.isEmpty() ? 0 : sizes.first();
    }

    private int count(House h, int m, int n) {
        if (h == null || !within(m, 0, 3) || !within(n, 0, 7)) {
            return -1;
        }
        int having = (int) h.known().stream().filter(p -> p.marks[m] == n).count();
        int others = (int) h.known().stream().filter(p -> p.marks[m] != n).count();
        return within(having, 1, h.least - 1) || within(others, 1, h.least - 1) ? -2 : having;
    }

    private int given(Name n, int what) {
        if (n == null || !within(what, 0, 4)) {
            return -1;
        }
        return new int[] {n.house.number, n.text, n.owner.number, n.day, n.span}[what];
    }

    private int look(Person p, int what) {
        if (p == null || !within(what, 0, 7)) {
            return -1;
        }
        int owned = (int) names.stream().filter(n -> n.owner == p).count();
        int[] all = {p.head().number, p.holder == null ? -1 : p.holder.number, p.struck ? 1 : 0, owned,
            p.marks[0], p.marks[1], p.marks[2], p.marks[3]};
        return all[what];
    }

    private int tell(int what) {
        int[] all = {people.size(), houses.size(), today, names.size(), entries.size(), bridges.size()};
        if (within(what, 0, 5)) {
            return all[what];
        }
        for (House h : houses) {
            if (what == 10 + h.number) {
                return h.names.size();
            }
            if (what == 20 + h.number) {
                return h.known().size();
            }
            if (what == 30 + h.number) {
                return h.lost ? 1 : 0;
            }
        }
        return -1;
    }

    /** A name of house h that was given, or one near it, for the runs to ask about. */
    int someName(int h, int at) {
        House house = get(houses, h);
        return house == null || house.names.isEmpty() ? at : house.names.get(at % house.names.size()).text;
    }

    int seedOf(int h) {
        House house = get(houses, h);
        return house == null ? 1 : house.seed;
    }
}
