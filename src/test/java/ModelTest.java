import java.util.ArrayList;
import java.util.HashMap;
import java.util.List;
import java.util.Map;
import java.util.Random;
import java.util.TreeMap;

/** Long runs of calls, drawn from fixed seeds, against a plain model of the document's words. */
public final class ModelTest {
    private static final int RUNS = 3000;
    private static final int CALLS = 512;

    private static final class MPack {
        boolean keeps;
        Integer ended;
        int room = 100;
        final List<Integer> in = new ArrayList<>();
        final List<Integer> waiting = new ArrayList<>();
        final List<Integer> rules = new ArrayList<>();
        final Map<Integer, MTitle> byName = new HashMap<>();
    }

    private static final class MTitle {
        int pack;
        int name;
        boolean active = true;
        int embargo;
        int usages;
        final TreeMap<Integer, Integer> spans = new TreeMap<>();
        final Map<Integer, Integer> usagesIn = new HashMap<>();
    }

    private record MRule(int kind, int does, int value) { }

    private static final class Model {
        final List<MPack> packs = new ArrayList<>();
        final List<MTitle> titles = new ArrayList<>();
        final List<MRule> rules = new ArrayList<>();
        final List<Boolean> failing = new ArrayList<>();
        final Map<Integer, Integer> classes = new HashMap<>();
        final Map<List<Integer>, Integer> readerUsages = new HashMap<>();
        final List<int[]> told = new ArrayList<>();
        int failed = -1;

        static boolean has(List<?> list, int i) {
            return i >= 0 && i < list.size();
        }

        static boolean isReader(int r) {
            return r >= 0 && r <= 99;
        }

        static boolean isDay(int d) {
            return d >= 0 && d <= 200000;
        }

        static boolean embargoed(MTitle t, int day, int on) {
            return day / 30 > on / 30 - t.embargo;
        }

        void tell(int sort, int number) {
            if (told.size() < 100) {
                told.add(new int[] {sort, number});
            }
        }

        int call(int which, int a, int b, int c, int d) {
            switch (which) {
                case 0: return pack(a % 2 != 0);
                case 1: return title(a, b);
                case 2: return cover(a, b, c);
                case 3: return embargo(a, b, c);
                case 4: return rule(a, b, c, d);
                case 5: return fails(a, b % 2 != 0);
                case 6: return reader(a, b);
                case 7: return room(a, b);
                case 8: return in(a, b);
                case 9: return out(a, b);
                case 10: return access(a, b, c, d);
                case 11: return failed;
                case 12: return provider(a, b, c);
                case 13: return end(a, b);
                case 14: return about(a, b);
                case 15: return gap(a, b, c);
                case 16: return usage(a, b);
                case 17: return told(a, b);
                default: return who(a, b);
            }
        }

        int pack(boolean keeps) {
            if (packs.size() == 20) return -4;
            MPack p = new MPack();
            p.keeps = keeps;
            packs.add(p);
            return packs.size() - 1;
        }

        int title(int pack, int name) {
            if (!has(packs, pack)) return -1;
            MPack p = packs.get(pack);
            if (p.byName.containsKey(name)) return -3;
            if (titles.size() == 200) return -4;
            MTitle t = new MTitle();
            t.pack = pack;
            t.name = name;
            titles.add(t);
            p.byName.put(name, t);
            return titles.size() - 1;
        }

        int cover(int title, int from, int to) {
            if (!has(titles, title)) return -1;
            if (!isDay(from) || !isDay(to) || from > to) return -2;
            TreeMap<Integer, Integer> spans = titles.get(title).spans;
            Map.Entry<Integer, Integer> below = spans.floorEntry(to + 1);
            if (below != null && below.getValue() >= from - 1) return -3;
            if (spans.size() == 10) return -4;
            spans.put(from, to);
            return spans.size();
        }

        int embargo(int title, int months, int day) {
            if (!has(titles, title)) return -1;
            if (months < 0 || months > 120 || !isDay(day)) return -2;
            MTitle t = titles.get(title);
            t.embargo = months;
            int least = 0;
            while (!embargoed(t, least, day)) least += 30;
            return least;
        }

        int rule(int pack, int kind, int does, int value) {
            if (!has(packs, pack)) return -1;
            if (kind < 0 || kind > 3 || does < 1 || does > 2) return -2;
            int[] most = {9, 0, 127, 1000000};
            if (kind != 1 && (value < 0 || value > most[kind])) return -2;
            if (rules.size() == 100) return -4;
            packs.get(pack).rules.add(rules.size());
            rules.add(new MRule(kind, does, value));
            failing.add(false);
            return rules.size() - 1;
        }

        int fails(int rule, boolean on) {
            if (!has(rules, rule)) return -1;
            failing.set(rule, on);
            return 1;
        }

        int reader(int reader, int c) {
            if (!isReader(reader)) return -1;
            if (c < 0 || c > 9) return -2;
            classes.put(reader, c);
            return 1;
        }

        int room(int pack, int n) {
            if (!has(packs, pack)) return -1;
            if (n < 0 || n > 100) return -2;
            MPack p = packs.get(pack);
            p.room = n;
            int moved = 0;
            while (p.in.size() < n && !p.waiting.isEmpty()) {
                p.in.add(p.waiting.remove(0));
                moved++;
            }
            return moved;
        }

        int in(int pack, int reader) {
            if (!has(packs, pack) || !isReader(reader)) return -1;
            MPack p = packs.get(pack);
            if (p.in.contains(reader) || p.waiting.contains(reader)) return -3;
            boolean enters = p.in.size() < p.room;
            (enters ? p.in : p.waiting).add(reader);
            return enters ? 1 : 0;
        }

        int out(int pack, int reader) {
            if (!has(packs, pack) || !isReader(reader)) return -1;
            MPack p = packs.get(pack);
            if (p.waiting.remove(Integer.valueOf(reader))) return -10;
            if (!p.in.remove(Integer.valueOf(reader))) return -3;
            if (p.waiting.isEmpty() || p.in.size() >= p.room) return -10;
            p.in.add(p.waiting.remove(0));
            return p.in.get(p.in.size() - 1);
        }

        int access(int reader, int title, int day, int on) {
            if (!has(titles, title) || !isReader(reader)) return -1;
            if (!isDay(day) || !isDay(on)) return -2;
            MTitle t = titles.get(title);
            MPack p = packs.get(t.pack);
            if (!t.active) return 1;
            if (p.ended != null && on >= p.ended && !(p.keeps && day < p.ended)) return 2;
            Map.Entry<Integer, Integer> span = t.spans.floorEntry(day);
            if (span == null || span.getValue() < day) return 3;
            if (embargoed(t, day, on)) return 4;
            if (!allowed(p, t, reader, on)) return 5;
            if (!p.in.contains(reader)) return 6;
            t.usages++;
            t.usagesIn.merge(on / 30, 1, Integer::sum);
            readerUsages.merge(List.of(reader, on / 30), 1, Integer::sum);
            return 0;
        }

        boolean allowed(MPack p, MTitle t, int reader, int on) {
            failed = -1;
            for (int number : p.rules) {
                MRule r = rules.get(number);
                if (failing.get(number)) {
                    failed = number;
                    tell(1, number);
                    return false;
                }
                boolean fits = switch (r.kind()) {
                    case 0 -> classes.getOrDefault(reader, 0) == r.value();
                    case 1 -> t.name < r.value();
                    case 2 -> (r.value() & 1 << on % 7) != 0;
                    default -> readerUsages.getOrDefault(List.of(reader, on / 30), 0) >= r.value();
                };
                if (fits) return r.does() == 1;
            }
            return false;
        }

        int provider(int pack, int name, int other) {
            if (!has(packs, pack)) return -1;
            MPack p = packs.get(pack);
            MTitle t = p.byName.get(name);
            if (t == null) {
                tell(2, name);
                return 0;
            }
            if (name == other) {
                t.active = !t.active;
                return 1;
            }
            if (p.byName.containsKey(other)) return -3;
            p.byName.remove(name);
            p.byName.put(other, t);
            t.name = other;
            return 1;
        }

        int end(int pack, int day) {
            if (!has(packs, pack)) return -1;
            if (!isDay(day)) return -2;
            MPack p = packs.get(pack);
            if (p.ended != null) return -3;
            p.ended = day;
            int count = 0;
            for (MTitle t : p.byName.values()) {
                boolean goesOn = false;
                for (int to : t.spans.values()) goesOn |= to > day;
                count += goesOn ? 1 : 0;
            }
            return count;
        }

        int about(int title, int what) {
            if (!has(titles, title) || what < 0 || what > 7) return -1;
            MTitle t = titles.get(title);
            int first = t.spans.isEmpty() ? -1 : t.spans.firstKey();
            int last = t.spans.isEmpty() ? -1 : t.spans.lastEntry().getValue();
            return new int[] {t.pack, t.name, t.active ? 1 : 0, t.spans.size(), t.embargo,
                t.usages, first, last}[what];
        }

        int gap(int title, int i, int side) {
            if (!has(titles, title) || i < 0 || side < 0 || side > 1) return -1;
            List<int[]> gaps = new ArrayList<>();
            Integer before = null;
            for (Map.Entry<Integer, Integer> span : titles.get(title).spans.entrySet()) {
                if (before != null) gaps.add(new int[] {before + 1, span.getKey() - 1});
                before = span.getValue();
            }
            return has(gaps, i) ? gaps.get(i)[side] : -1;
        }

        int usage(int title, int month) {
            if (!has(titles, title)) return -1;
            if (month < 0 || month > 6666) return -2;
            return titles.get(title).usagesIn.getOrDefault(month, 0);
        }

        int told(int i, int what) {
            return has(told, i) && what >= 0 && what <= 1 ? told.get(i)[what] : -1;
        }

        int who(int pack, int which) {
            if (!has(packs, pack) || which < 0) return -1;
            MPack p = packs.get(pack);
            List<Integer> list = which % 2 == 0 ? p.in : p.waiting;
            if (which < 2) return list.size();
            int i = (which - 2 - which % 2) / 2;
            return has(list, i) ? list.get(i) : -1;
        }
    }

    private static final String[] NAMES = {"pack", "title", "cover", "embargo", "rule", "fails",
        "reader", "room", "in", "out", "access", "failed", "provider", "end", "about", "gap",
        "usage", "told", "who"};

    private static int real(LicenceRows2 x, int which, int a, int b, int c, int d) {
        switch (which) {
            case 0: return x.pack(a % 2 != 0);
            case 1: return x.title(a, b);
            case 2: return x.cover(a, b, c);
            case 3: return x.embargo(a, b, c);
            case 4: return x.rule(a, b, c, d);
            case 5: return x.fails(a, b % 2 != 0);
            case 6: return x.reader(a, b);
            case 7: return x.room(a, b);
            case 8: return x.in(a, b);
            case 9: return x.out(a, b);
            case 10: return x.access(a, b, c, d);
            case 11: return x.failed();
            case 12: return x.provider(a, b, c);
            case 13: return x.end(a, b);
            case 14: return x.about(a, b);
            case 15: return x.gap(a, b, c);
            case 16: return x.usage(a, b);
            case 17: return x.told(a, b);
            default: return x.who(a, b);
        }
    }

    /** Draws arguments: mostly such that calls meet what earlier calls made, and wrong ones at times. */
    private static final class Draw {
        final Random random;
        final int packs;
        final int titles;
        final int readers;
        final int days;
        final int[] weights = new int[19];
        final List<int[]> spans = new ArrayList<>();
        int weightSum = 0;

        Draw(long seed) {
            random = new Random(seed);
            packs = 1 + random.nextInt(random.nextBoolean() ? 3 : 20);
            titles = 1 + random.nextInt(random.nextBoolean() ? 4 : 200);
            readers = 1 + random.nextInt(random.nextBoolean() ? 5 : 100);
            days = random.nextBoolean() ? 300 : 200001;
            for (int i = 0; i < weights.length; i++) {
                weights[i] = 1 + random.nextInt(random.nextInt(4) == 0 ? 30 : 6);
            }
            weights[10] *= 6;
            weights[8] *= 3;
            weights[12] = random.nextInt(3);
            weights[13] = random.nextInt(2);
            for (int w : weights) weightSum += w;
        }

        int below(int bound) {
            int odd = random.nextInt(80);
            if (odd == 0) return -1 - random.nextInt(2);
            if (odd == 1) return bound + random.nextInt(2);
            if (odd == 2) return random.nextInt();
            return random.nextInt(bound);
        }

        int day() {
            return below(days);
        }

        int which() {
            int at = random.nextInt(weightSum);
            for (int i = 0; i < weights.length; i++) {
                at -= weights[i];
                if (at < 0) return i;
            }
            return weights.length - 1;
        }

        int[] arguments(int which) {
            switch (which) {
                case 1: return new int[] {below(packs), below(titles), 0, 0};
                case 2: {
                    int from = day();
                    int length = random.nextInt(4) == 0 ? 0 : below(random.nextBoolean() ? days : days / 15);
                    int[] span = {below(titles), from, Math.min(from + length, 200001), 0};
                    spans.add(span);
                    return span;
                }
                case 3: return new int[] {below(titles), below(random.nextBoolean() ? 4 : 121), day(), 0};
                case 4: return ruleArguments();
                case 5: return new int[] {below(12), random.nextInt(8) == 0 ? 1 : 0, 0, 0};
                case 6: return new int[] {below(readers), below(random.nextBoolean() ? 3 : 10), 0, 0};
                case 7: return new int[] {below(packs), below(random.nextBoolean() ? 5 : 101), 0, 0};
                case 8: case 9: return new int[] {below(packs), below(readers), 0, 0};
                case 10: return accessArguments();
                case 12: {
                    int name = below(titles);
                    return new int[] {below(packs), name, random.nextInt(3) == 0 ? name : below(titles), 0};
                }
                case 13: return new int[] {below(packs), day(), 0, 0};
                case 14: return new int[] {below(titles), below(8), 0, 0};
                case 15: return new int[] {below(titles), below(4), below(2), 0};
                case 16: return new int[] {below(titles), below(Math.max(1, days / 30)), 0, 0};
                case 17: return new int[] {below(101), below(2), 0, 0};
                case 18: return new int[] {below(packs), below(random.nextBoolean() ? 6 : 203), 0, 0};
                default: return new int[] {random.nextInt(2), 0, 0, 0};
            }
        }

        int[] accessArguments() {
            if (spans.isEmpty() || random.nextInt(4) == 0) {
                return new int[] {below(readers), below(titles), day(), day()};
            }
            int[] span = spans.get(random.nextInt(spans.size()));
            int day = random.nextInt(3) == 0 ? span[2] + random.nextInt(2) : span[1] - random.nextInt(2);
            int on = random.nextBoolean() ? day + random.nextInt(90) : day();
            return new int[] {below(readers), span[0], day, on};
        }

        int[] ruleArguments() {
            int kind = below(4);
            int[] bounds = {10, titles, 128, random.nextBoolean() ? 4 : 1000001};
            int bound = kind >= 0 && kind < 4 ? bounds[kind] : 5;
            int does = random.nextInt(20) == 0 ? below(5) : random.nextInt(3) == 0 ? 2 : 1;
            return new int[] {below(packs), kind, does, below(bound)};
        }
    }

    /** Builds up first, so that most of a run's accesses get as far as the rules. */
    private static int nextCall(Draw draw, int i) {
        if (i < draw.packs) return 0;
        if (i < draw.packs + Math.min(draw.titles, 60)) return 1;
        if (i < draw.packs + 2 * Math.min(draw.titles, 60)) return 2;
        if (i < draw.packs + 2 * Math.min(draw.titles, 60) + 2 * draw.packs) return 4;
        return draw.which();
    }

    private static boolean runAgrees(long seed, long[][] seen) {
        Draw draw = new Draw(seed);
        LicenceRows2 x = new LicenceRows2();
        Model model = new Model();
        for (int i = 0; i < CALLS; i++) {
            int which = nextCall(draw, i);
            int[] a = draw.arguments(which);
            int want = model.call(which, a[0], a[1], a[2], a[3]);
            int got = real(x, which, a[0], a[1], a[2], a[3]);
            if (got != want) {
                System.out.println("seed " + seed + ", call " + i + ": " + NAMES[which]
                    + java.util.Arrays.toString(a) + " answered " + got + ", due is " + want);
                return false;
            }
            if (want >= -4 && want <= 6) seen[which][want + 4]++;
        }
        return true;
    }

    public static void main(String[] args) {
        int wrong = 0;
        long[][] seen = new long[19][11];
        for (long seed = 0; seed < RUNS && wrong < 10; seed++) {
            if (!runAgrees(seed, seen)) wrong++;
        }
        for (int answer = 0; answer <= 6; answer++) {
            if (seen[10][answer + 4] == 0) {
                wrong++;
                System.out.println("no run had an access that answered " + answer);
            }
        }
        if (args.length > 0) {
            for (int i = 0; i < 19; i++) {
                System.out.println(NAMES[i] + " -4..6: " + java.util.Arrays.toString(seen[i]));
            }
        }
        System.out.println(RUNS + " runs, " + wrong + " not as due");
        if (wrong != 0) System.exit(1);
    }
}
