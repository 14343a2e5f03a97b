/**
 * Electronic holdings of a library: packages of titles, what is covered and embargoed,
 * the rules of their licences, who reads at once, and what has ended.
 */
public final class LicenceRows2 {
    public static final int NONE = -1;
    public static final int RANGE = -2;
    public static final int STATE = -3;
    public static final int FULL = -4;

    private static final int MAX_PACKS = 20;
    private static final int MAX_TITLES = 200;
    private static final int MAX_SPANS = 10;
    private static final int MAX_RULES = 100;
    private static final int MAX_READERS = 100;
    private static final int MAX_TOLD = 100;
    // An object is promised for 512 calls, and a call counts one usage at most.
    private static final int MAX_USAGES = 512;

    private static final int LAST_DAY = 200000;
    private static final int DAYS_OF_MONTH = 30;
    private static final int LAST_MONTH = LAST_DAY / DAYS_OF_MONTH;
    private static final int DAYS_OF_WEEK = 7;
    private static final int MAX_EMBARGO = 120;
    private static final int LAST_CLASS = 9;
    private static final int LAST_MASK = 127;
    private static final int LAST_BOUND = 1000000;

    private static final int KIND_CLASS = 0;
    private static final int KIND_NAME = 1;
    private static final int KIND_WEEK = 2;
    private static final int KIND_USAGES = 3;
    private static final int ALLOWS = 1;
    private static final int REFUSES = 2;

    private static final int READ = 0;
    private static final int NOT_ACTIVE = 1;
    private static final int HAS_ENDED = 2;
    private static final int NOT_COVERED = 3;
    private static final int EMBARGOED = 4;
    private static final int REFUSED = 5;
    private static final int NOT_IN = 6;

    private static final int TOLD_RULE = 1;
    private static final int TOLD_NAME = 2;
    private static final int NO_RULE = -1;
    private static final int NO_DAY = -1;
    private static final int NOBODY = -10;

    private final Pack[] packs = new Pack[MAX_PACKS];
    private int packCount = 0;
    private final Title[] titles = new Title[MAX_TITLES];
    private int titleCount = 0;
    private final Rule[] rules = new Rule[MAX_RULES];
    private int ruleCount = 0;
    private final int[] classOf = new int[MAX_READERS];
    private final Usages usages = new Usages();
    private final Notices notices = new Notices();
    private int latestFailed = NO_RULE;

    public LicenceRows2() {
    }

    public int pack(boolean keeps) {
        if (packCount >= MAX_PACKS) {
            return FULL;
        }
        packs[packCount] = new Pack(packCount, keeps);
        packCount++;
        return packCount - 1;
    }

    public int title(int pack, int name) {
        Pack p = findPack(pack);
        if (p == null) {
            return NONE;
        }
        if (findNamed(pack, name) != null) {
            return STATE;
        }
        if (titleCount >= MAX_TITLES) {
            return FULL;
        }
        titles[titleCount] = new Title(p, name);
        titleCount++;
        return titleCount - 1;
    }

    public int cover(int title, int from, int to) {
        Title t = findTitle(title);
        if (t == null) {
            return NONE;
        }
        if (!isDay(from) || !isDay(to) || from > to) {
            return RANGE;
        }
        if (t.meets(from, to)) {
            return STATE;
        }
        if (t.spans >= MAX_SPANS) {
            return FULL;
        }
        t.addSpan(from, to);
        return t.spans;
    }

    public int embargo(int title, int months, int day) {
        Title t = findTitle(title);
        if (t == null) {
            return NONE;
        }
        if (months < 0 || months > MAX_EMBARGO || !isDay(day)) {
            return RANGE;
        }
        t.months = months;
        return Math.max(0, (t.lastFreeMonth(day) + 1) * DAYS_OF_MONTH);
    }

    public int rule(int pack, int kind, int does, int value) {
        if (findPack(pack) == null) {
            return NONE;
        }
        if ((does != ALLOWS && does != REFUSES) || !isValueOf(kind, value)) {
            return RANGE;
        }
        if (ruleCount >= MAX_RULES) {
            return FULL;
        }
        rules[ruleCount] = new Rule(pack, kind, does, value);
        ruleCount++;
        return ruleCount - 1;
    }

    public int fails(int rule, boolean on) {
        Rule r = findRule(rule);
        if (r == null) {
            return NONE;
        }
        r.failing = on;
        return 1;
    }

    public int reader(int reader, int c) {
        if (!isReader(reader)) {
            return NONE;
        }
        if (c < 0 || c > LAST_CLASS) {
            return RANGE;
        }
        classOf[reader] = c;
        return 1;
    }

    public int room(int pack, int n) {
        Pack p = findPack(pack);
        if (p == null) {
            return NONE;
        }
        if (n < 0 || n > MAX_READERS) {
            return RANGE;
        }
        p.places = n;
        int admitted = 0;
        while (admitted < MAX_READERS && p.admitNext() != NOBODY) {
            admitted++;
        }
        return admitted;
    }

    public int in(int pack, int reader) {
        Pack p = findPack(pack);
        if (p == null || !isReader(reader)) {
            return NONE;
        }
        if (p.inside.holds(reader) || p.waiting.holds(reader)) {
            return STATE;
        }
        if (!p.hasPlace()) {
            p.waiting.append(reader);
            return 0;
        }
        p.inside.append(reader);
        return 1;
    }

    public int out(int pack, int reader) {
        Pack p = findPack(pack);
        if (p == null || !isReader(reader)) {
            return NONE;
        }
        if (p.inside.drop(reader)) {
            return p.admitNext();
        }
        return p.waiting.drop(reader) ? NOBODY : STATE;
    }

    public int access(int reader, int title, int day, int on) {
        Title t = findTitle(title);
        if (t == null || !isReader(reader)) {
            return NONE;
        }
        if (!isDay(day) || !isDay(on)) {
            return RANGE;
        }
        int answer = judge(reader, t, day, on);
        if (answer == READ) {
            usages.append(reader, title, monthOf(on));
        }
        return answer;
    }

    public int failed() {
        return latestFailed;
    }

    public int provider(int pack, int name, int other) {
        if (findPack(pack) == null) {
            return NONE;
        }
        Title t = findNamed(pack, name);
        if (t == null) {
            notices.append(TOLD_NAME, name);
            return 0;
        }
        if (name == other) {
            t.active = !t.active;
            return 1;
        }
        if (findNamed(pack, other) != null) {
            return STATE;
        }
        t.name = other;
        return 1;
    }

    public int end(int pack, int day) {
        Pack p = findPack(pack);
        if (p == null) {
            return NONE;
        }
        if (!isDay(day)) {
            return RANGE;
        }
        if (p.endDay != NO_DAY) {
            return STATE;
        }
        p.endDay = day;
        return countGoingOn(pack, day);
    }

    public int about(int title, int what) {
        Title t = findTitle(title);
        if (t == null) {
            return NONE;
        }
        switch (what) {
            case 0:
                return t.home.number;
            case 1:
                return t.name;
            case 2:
                return t.active ? 1 : 0;
            case 3:
                return t.spans;
            case 4:
                return t.months;
            case 5:
                return usages.ofTitle(title);
            case 6:
                return t.firstDay();
            case 7:
                return t.lastDay();
            default:
                return NONE;
        }
    }

    public int gap(int title, int i, int side) {
        Title t = findTitle(title);
        if (t == null || i < 0 || i >= t.spans - 1) {
            return NONE;
        }
        if (side == 0) {
            return t.to[i] + 1;
        }
        return side == 1 ? t.from[i + 1] - 1 : NONE;
    }

    public int usage(int title, int month) {
        if (findTitle(title) == null) {
            return NONE;
        }
        if (month < 0 || month > LAST_MONTH) {
            return RANGE;
        }
        return usages.ofTitleIn(title, month);
    }

    public int told(int i, int what) {
        if (i < 0 || i >= notices.size) {
            return NONE;
        }
        if (what == 0) {
            return notices.sorts[i];
        }
        return what == 1 ? notices.numbers[i] : NONE;
    }

    public int who(int pack, int which) {
        Pack p = findPack(pack);
        if (p == null || which < 0) {
            return NONE;
        }
        Line line = which % 2 == 0 ? p.inside : p.waiting;
        return which < 2 ? line.size : line.at(which / 2 - 1);
    }

    private Pack findPack(int pack) {
        return pack < 0 || pack >= packCount ? null : packs[pack];
    }

    private Title findTitle(int title) {
        return title < 0 || title >= titleCount ? null : titles[title];
    }

    private Rule findRule(int rule) {
        return rule < 0 || rule >= ruleCount ? null : rules[rule];
    }

    private Title findNamed(int pack, int name) {
        for (int i = 0; i < titleCount; i++) {
            Title t = titles[i];
            if (t != null && t.home.number == pack && t.name == name) {
                return t;
            }
        }
        return null;
    }

    private int countGoingOn(int pack, int day) {
        int count = 0;
        for (int i = 0; i < titleCount; i++) {
            Title t = titles[i];
            if (t != null && t.home.number == pack && t.lastDay() > day) {
                count++;
            }
        }
        return count;
    }

    private int judge(int reader, Title t, int day, int on) {
        if (!t.active) {
            return NOT_ACTIVE;
        }
        if (t.home.hasEndedBy(on) && !t.home.keepsDay(day)) {
            return HAS_ENDED;
        }
        if (!t.covers(day)) {
            return NOT_COVERED;
        }
        if (monthOf(day) > t.lastFreeMonth(on)) {
            return EMBARGOED;
        }
        if (!rulesAllow(reader, t, on)) {
            return REFUSED;
        }
        return t.home.inside.holds(reader) ? READ : NOT_IN;
    }

    private boolean rulesAllow(int reader, Title t, int on) {
        latestFailed = NO_RULE;
        // Counted once here, since every rule of the row may ask for it.
        int had = usages.ofReaderIn(reader, monthOf(on));
        for (int i = 0; i < ruleCount; i++) {
            Rule r = rules[i];
            if (r == null || r.home != t.home.number) {
                continue;
            }
            if (r.failing) {
                latestFailed = i;
                notices.append(TOLD_RULE, i);
                return false;
            }
            if (r.fits(classOf[reader], t.name, on, had)) {
                return r.does == ALLOWS;
            }
        }
        return false;
    }

    private static boolean isDay(int day) {
        return day >= 0 && day <= LAST_DAY;
    }

    private static boolean isReader(int reader) {
        return reader >= 0 && reader < MAX_READERS;
    }

    private static int monthOf(int day) {
        return day / DAYS_OF_MONTH;
    }

    private static boolean isValueOf(int kind, int value) {
        switch (kind) {
            case KIND_CLASS:
                return value >= 0 && value <= LAST_CLASS;
            case KIND_NAME:
                return true;
            case KIND_WEEK:
                return value >= 0 && value <= LAST_MASK;
            case KIND_USAGES:
                return value >= 0 && value <= LAST_BOUND;
            default:
                return false;
        }
    }

    /** Readers in the order in which they came. */
    private static final class Line {
        final int[] readers = new int[MAX_READERS];
        int size = 0;

        int at(int i) {
            return i < 0 || i >= size ? NONE : readers[i];
        }

        boolean holds(int reader) {
            return placeOf(reader) >= 0;
        }

        void append(int reader) {
            if (size < MAX_READERS) {
                readers[size] = reader;
                size++;
            }
        }

        boolean drop(int reader) {
            int place = placeOf(reader);
            if (place < 0) {
                return false;
            }
            size--;
            for (int i = place; i < size; i++) {
                readers[i] = readers[i + 1];
            }
            return true;
        }

        private int placeOf(int reader) {
            for (int i = 0; i < size; i++) {
                if (readers[i] == reader) {
                    return i;
                }
            }
            return -1;
        }
    }

    private static final class Pack {
        final int number;
        final boolean keeps;
        final Line inside = new Line();
        final Line waiting = new Line();
        int places = MAX_READERS;
        int endDay = NO_DAY;

        Pack(int number, boolean keeps) {
            this.number = number;
            this.keeps = keeps;
        }

        boolean hasPlace() {
            return inside.size < places;
        }

        /** The reader that waited longest is in now, if there is one and a place for it. */
        int admitNext() {
            if (!hasPlace() || waiting.size == 0) {
                return NOBODY;
            }
            int next = waiting.readers[0];
            waiting.drop(next);
            inside.append(next);
            return next;
        }

        boolean hasEndedBy(int on) {
            return endDay != NO_DAY && endDay <= on;
        }

        boolean keepsDay(int day) {
            return keeps && day < endDay;
        }
    }

    private static final class Title {
        final Pack home;
        int name;
        boolean active = true;
        int months = 0;
        // Spans stand in the order of their days, so that gaps lie between neighbours.
        final int[] from = new int[MAX_SPANS];
        final int[] to = new int[MAX_SPANS];
        int spans = 0;

        Title(Pack home, int name) {
            this.home = home;
            this.name = name;
        }

        /** The last month of which days are not embargoed on a day; below 0 if there is none. */
        int lastFreeMonth(int on) {
            return monthOf(on) - months;
        }

        boolean meets(int first, int last) {
            for (int i = 0; i < spans; i++) {
                if (first <= to[i] + 1 && last >= from[i] - 1) {
                    return true;
                }
            }
            return false;
        }

        void addSpan(int first, int last) {
            if (spans >= MAX_SPANS) {
                return;
            }
            int place = spans;
            while (place > 0 && from[place - 1] > first) {
                from[place] = from[place - 1];
                to[place] = to[place - 1];
                place--;
            }
            from[place] = first;
            to[place] = last;
            spans++;
        }

        boolean covers(int day) {
            for (int i = 0; i < spans; i++) {
                if (from[i] <= day && day <= to[i]) {
                    return true;
                }
            }
            return false;
        }

        int firstDay() {
            return spans == 0 ? NO_DAY : from[0];
        }

        int lastDay() {
            return spans == 0 ? NO_DAY : to[spans - 1];
        }
    }

    private static final class Rule {
        final int home;
        final int kind;
        final int does;
        final int value;
        boolean failing = false;

        Rule(int home, int kind, int does, int value) {
            this.home = home;
            this.kind = kind;
            this.does = does;
            this.value = value;
        }

        boolean fits(int readerClass, int name, int on, int had) {
            switch (kind) {
                case KIND_CLASS:
                    return readerClass == value;
                case KIND_NAME:
                    return name < value;
                case KIND_WEEK:
                    return (value >> (on % DAYS_OF_WEEK) & 1) == 1;
                case KIND_USAGES:
                    return had >= value;
                default:
                    return false;
            }
        }
    }

    /** Every usage, one by one: they are few, and are asked by reader and by title. */
    private static final class Usages {
        final int[] readers = new int[MAX_USAGES];
        final int[] titles = new int[MAX_USAGES];
        final int[] months = new int[MAX_USAGES];
        int size = 0;

        void append(int reader, int title, int month) {
            if (size < MAX_USAGES) {
                readers[size] = reader;
                titles[size] = title;
                months[size] = month;
                size++;
            }
        }

        int ofReaderIn(int reader, int month) {
            int count = 0;
            for (int i = 0; i < size; i++) {
                if (readers[i] == reader && months[i] == month) {
                    count++;
                }
            }
            return count;
        }

        int ofTitleIn(int title, int month) {
            int count = 0;
            for (int i = 0; i < size; i++) {
                if (titles[i] == title && months[i] == month) {
                    count++;
                }
            }
            return count;
        }

        int ofTitle(int title) {
            int count = 0;
            for (int i = 0; i < size; i++) {
                if (titles[i] == title) {
                    count++;
                }
            }
            return count;
        }
    }

    /** What is told: rows beyond the last place are lost. */
    private static final class Notices {
        final int[] sorts = new int[MAX_TOLD];
        final int[] numbers = new int[MAX_TOLD];
        int size = 0;

        void append(int sort, int number) {
            if (size < MAX_TOLD) {
                sorts[size] = sort;
                numbers[size] = number;
                size++;
            }
        }
    }
}
