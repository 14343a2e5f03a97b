import java.lang.reflect.InvocationTargetException;
import java.lang.reflect.Method;
import java.util.Arrays;

/**
 * One test for each boundary case that the document names: too small, too large, empty, full,
 * the last one that is fine and the first one that is not, and what a refused call leaves alone.
 * A test is a static method without parameters whose name begins with its promise, p01 .. p20;
 * the bounds of Terms stand with the promise whose call shows them.
 */
public final class BoundaryTests {
    private static final int NONE = -1;
    private static final int RANGE = -2;
    private static final int STATE = -3;
    private static final int FULL = -4;
    private static final int NOBODY = -10;
    private static final int LAST = 200000;
    private static final int MIN = Integer.MIN_VALUE;
    private static final int MAX = Integer.MAX_VALUE;

    private static String test = "";
    private static int wrong = 0;

    private static void due(String what, int got, int want) {
        if (got != want) {
            wrong++;
            System.out.println(test + ": " + what + " answered " + got + ", due is " + want);
        }
    }

    private static LicenceRows2 packs(int count) {
        LicenceRows2 x = new LicenceRows2();
        for (int i = 0; i < count; i++) {
            due("pack " + i, x.pack(true), i);
        }
        return x;
    }

    /** Titles 0 .. count - 1 in package 0, title i named 10 + i, without spans. */
    private static LicenceRows2 titles(int count) {
        LicenceRows2 x = packs(1);
        for (int i = 0; i < count; i++) {
            due("title " + i, x.title(0, 10 + i), i);
        }
        return x;
    }

    /** Title 0, named 10, covered on all days; reader 3 is in; there are no rules. */
    private static LicenceRows2 ruleless() {
        LicenceRows2 x = titles(1);
        due("cover", x.cover(0, 0, LAST), 1);
        due("in", x.in(0, 3), 1);
        return x;
    }

    /** As ruleless, with rule 0, which allows everything. */
    private static LicenceRows2 open() {
        LicenceRows2 x = ruleless();
        due("rule", x.rule(0, 3, 1, 0), 0);
        return x;
    }

    /** Title 0 with the span 100 .. 200 alone; reader 3 is in; rule 0 allows everything. */
    private static LicenceRows2 spanned() {
        LicenceRows2 x = titles(1);
        due("cover", x.cover(0, 100, 200), 1);
        due("in", x.in(0, 3), 1);
        due("rule", x.rule(0, 3, 1, 0), 0);
        return x;
    }

    /** Ten spans of title 0: 0 .. 50, 100 .. 150, up to 900 .. 950. */
    private static LicenceRows2 tenSpans() {
        LicenceRows2 x = titles(1);
        for (int i = 0; i < 10; i++) {
            due("span " + i, x.cover(0, 100 * i, 100 * i + 50), i + 1);
        }
        return x;
    }

    /** Package 0 has room for one: reader 7 is in, 8 and 9 wait. */
    private static LicenceRows2 crowded() {
        LicenceRows2 x = packs(1);
        due("room", x.room(0, 1), 0);
        due("in 7", x.in(0, 7), 1);
        due("in 8", x.in(0, 8), 0);
        due("in 9", x.in(0, 9), 0);
        return x;
    }

    // Promise 1: a new object

    static void p01NoPackages() {
        LicenceRows2 x = new LicenceRows2();
        due("title", x.title(0, 1), NONE);
        due("rule", x.rule(0, 0, 1, 0), NONE);
        due("room", x.room(0, 1), NONE);
        due("in", x.in(0, 0), NONE);
        due("out", x.out(0, 0), NONE);
        due("provider", x.provider(0, 1, 1), NONE);
        due("end", x.end(0, 0), NONE);
        due("who", x.who(0, 0), NONE);
    }

    static void p01NoTitles() {
        LicenceRows2 x = packs(1);
        due("cover", x.cover(0, 0, 0), NONE);
        due("embargo", x.embargo(0, 0, 0), NONE);
        due("access", x.access(0, 0, 0, 0), NONE);
        due("about", x.about(0, 0), NONE);
        due("gap", x.gap(0, 0, 0), NONE);
        due("usage", x.usage(0, 0), NONE);
    }

    static void p01NoRules() {
        due("fails", packs(1).fails(0, true), NONE);
    }

    static void p01NobodyIsIn() {
        LicenceRows2 x = packs(1);
        due("in", x.who(0, 0), 0);
        due("waiting", x.who(0, 1), 0);
    }

    static void p01NothingFailedOrTold() {
        LicenceRows2 x = new LicenceRows2();
        due("failed", x.failed(), -1);
        due("told", x.told(0, 0), NONE);
    }

    static void p01ObjectsAreApart() {
        LicenceRows2 full = packs(20);
        due("full", full.pack(true), FULL);
        LicenceRows2 x = new LicenceRows2();
        due("another object", x.title(0, 1), NONE);
        due("another object", x.pack(true), 0);
    }

    static void p01FiveHundredTwelveCalls() {
        LicenceRows2 x = open();
        for (int i = 5; i < 511; i++) {
            due("call " + (i + 1), x.access(3, 0, 0, 0), 0);
        }
        due("call 512", x.usage(0, 0), 506);
    }

    // Promise 2: pack

    static void p02TwentyPackages() {
        LicenceRows2 x = packs(20);
        due("a title of the last one", x.title(19, 1), 0);
    }

    static void p02Full() {
        due("keeps", packs(20).pack(true), FULL);
        due("keeps not", packs(20).pack(false), FULL);
    }

    static void p02FullMakesNone() {
        LicenceRows2 x = packs(20);
        due("full", x.pack(true), FULL);
        due("package 20", x.who(20, 0), NONE);
        due("full again", x.pack(true), FULL);
    }

    // Promise 3: title

    static void p03PackageBelow() {
        LicenceRows2 x = packs(1);
        due("-1", x.title(-1, 1), NONE);
        due("MIN", x.title(MIN, 1), NONE);
    }

    static void p03PackageBehindTheLast() {
        LicenceRows2 x = packs(2);
        due("1", x.title(1, 1), 0);
        due("2", x.title(2, 1), NONE);
        due("MAX", x.title(MAX, 1), NONE);
    }

    static void p03PackageBehindTwenty() {
        due("20", packs(20).title(20, 1), NONE);
    }

    static void p03SameName() {
        due("again", titles(1).title(0, 10), STATE);
    }

    static void p03SameNameInAnotherPackage() {
        LicenceRows2 x = packs(2);
        due("package 0", x.title(0, 10), 0);
        due("package 1", x.title(1, 10), 1);
    }

    static void p03SameNameAsTheLastOfMany() {
        LicenceRows2 x = titles(199);
        due("the first one's", x.title(0, 10), STATE);
        due("the last one's", x.title(0, 208), STATE);
    }

    static void p03SameNameNotActive() {
        LicenceRows2 x = titles(1);
        due("turned", x.provider(0, 10, 10), 1);
        due("again", x.title(0, 10), STATE);
    }

    static void p03NameGivenUp() {
        LicenceRows2 x = titles(1);
        due("renamed", x.provider(0, 10, 11), 1);
        due("the old one", x.title(0, 10), 1);
        due("the new one", x.title(0, 11), STATE);
    }

    static void p03EveryIntIsAName() {
        LicenceRows2 x = packs(1);
        int[] names = {MIN, -4, -3, -2, -1, 0, 1, MAX};
        for (int i = 0; i < names.length; i++) {
            due("name " + names[i], x.title(0, names[i]), i);
            due("name of " + i, x.about(i, 1), names[i]);
        }
    }

    static void p03TwoHundredTitles() {
        due("the last one", titles(200).about(199, 1), 209);
    }

    static void p03Full() {
        due("title 200", titles(200).title(0, 1), FULL);
    }

    static void p03FullOverAllPackages() {
        LicenceRows2 x = packs(20);
        for (int i = 0; i < 200; i++) {
            due("title " + i, x.title(i % 19, i), i);
        }
        due("a package without titles", x.title(19, 1), FULL);
    }

    static void p03FullMakesNone() {
        LicenceRows2 x = titles(200);
        due("full", x.title(0, 1), FULL);
        due("title 200", x.about(200, 1), NONE);
        due("its name", x.provider(0, 1, 1), 0);
    }

    static void p03RefusedTakesNoNumber() {
        LicenceRows2 x = titles(1);
        due("STATE", x.title(0, 10), STATE);
        due("NONE", x.title(1, 11), NONE);
        due("none made", x.about(1, 0), NONE);
        due("next", x.title(0, 11), 1);
    }

    static void p03WhichRefusalComesFirst() {
        LicenceRows2 x = titles(200);
        due("NONE before FULL", x.title(1, 1), NONE);
        due("STATE before FULL", x.title(0, 10), STATE);
    }

    static void p03ActiveAtFirst() {
        due("active", titles(1).about(0, 2), 1);
    }

    // Promise 4: cover

    static void p04TitleBelow() {
        LicenceRows2 x = titles(1);
        due("-1", x.cover(-1, 0, 0), NONE);
        due("MIN", x.cover(MIN, 0, 0), NONE);
    }

    static void p04TitleBehindTheLast() {
        LicenceRows2 x = titles(2);
        due("1", x.cover(1, 0, 0), 1);
        due("2", x.cover(2, 0, 0), NONE);
        due("MAX", x.cover(MAX, 0, 0), NONE);
    }

    static void p04TitleBehindTwoHundred() {
        due("200", titles(200).cover(200, 0, 0), NONE);
    }

    static void p04FromTooSmall() {
        LicenceRows2 x = titles(1);
        due("-1", x.cover(0, -1, 5), RANGE);
        due("MIN", x.cover(0, MIN, 5), RANGE);
    }

    static void p04ToTooLarge() {
        LicenceRows2 x = titles(1);
        due("200001", x.cover(0, 5, LAST + 1), RANGE);
        due("MAX", x.cover(0, 5, MAX), RANGE);
    }

    static void p04BothOutside() {
        LicenceRows2 x = titles(1);
        due("both below", x.cover(0, -2, -1), RANGE);
        due("both above", x.cover(0, LAST + 1, LAST + 1), RANGE);
        due("one each", x.cover(0, MIN, MAX), RANGE);
    }

    static void p04FirstDay() {
        due("0 .. 0", titles(1).cover(0, 0, 0), 1);
    }

    static void p04LastDay() {
        due("200000 .. 200000", titles(1).cover(0, LAST, LAST), 1);
    }

    static void p04AllDays() {
        due("0 .. 200000", titles(1).cover(0, 0, LAST), 1);
    }

    static void p04FromBehindTo() {
        LicenceRows2 x = titles(1);
        due("by a day", x.cover(0, 6, 5), RANGE);
        due("by all days", x.cover(0, LAST, 0), RANGE);
    }

    static void p04OneDay() {
        due("from is to", titles(1).cover(0, 5, 5), 1);
    }

    static void p04TouchesBelow() {
        due("50 .. 99", spanned().cover(0, 50, 99), STATE);
    }

    static void p04ADayApartBelow() {
        due("50 .. 98", spanned().cover(0, 50, 98), 2);
    }

    static void p04TouchesAbove() {
        due("201 .. 250", spanned().cover(0, 201, 250), STATE);
    }

    static void p04ADayApartAbove() {
        due("202 .. 250", spanned().cover(0, 202, 250), 2);
    }

    static void p04TheOneDayBetweenTouchesBoth() {
        LicenceRows2 x = spanned();
        due("a day apart", x.cover(0, 202, 250), 2);
        due("the day", x.cover(0, 201, 201), STATE);
    }

    static void p04ThreeDaysBetweenHoldOne() {
        LicenceRows2 x = spanned();
        due("three days apart", x.cover(0, 204, 250), 2);
        due("touches below", x.cover(0, 201, 202), STATE);
        due("touches above", x.cover(0, 202, 203), STATE);
        due("the day in the middle", x.cover(0, 202, 202), 3);
    }

    static void p04OverlapsByADay() {
        due("its first", spanned().cover(0, 50, 100), STATE);
        due("its last", spanned().cover(0, 200, 250), STATE);
    }

    static void p04Inside() {
        due("inside", spanned().cover(0, 150, 160), STATE);
    }

    static void p04RoundIt() {
        due("round it", spanned().cover(0, 50, 250), STATE);
    }

    static void p04Same() {
        due("the same", spanned().cover(0, 100, 200), STATE);
    }

    static void p04RoundTheSecondOfTwo() {
        LicenceRows2 x = spanned();
        due("second", x.cover(0, 300, 300), 2);
        due("round it", x.cover(0, 290, 310), STATE);
        due("round both", x.cover(0, 0, LAST), STATE);
    }

    static void p04TouchesTheFirstDay() {
        LicenceRows2 x = titles(1);
        due("0 .. 0", x.cover(0, 0, 0), 1);
        due("1 .. 1", x.cover(0, 1, 1), STATE);
        due("2 .. 2", x.cover(0, 2, 2), 2);
    }

    static void p04TouchesTheLastDay() {
        LicenceRows2 x = titles(1);
        due("200000", x.cover(0, LAST, LAST), 1);
        due("199999", x.cover(0, LAST - 1, LAST - 1), STATE);
        due("199998", x.cover(0, LAST - 2, LAST - 2), 2);
    }

    static void p04OfAnotherTitle() {
        LicenceRows2 x = titles(2);
        due("title 0", x.cover(0, 100, 200), 1);
        due("title 1", x.cover(1, 100, 200), 1);
    }

    static void p04TenSpans() {
        due("ten", tenSpans().about(0, 3), 10);
    }

    static void p04Full() {
        due("the eleventh", tenSpans().cover(0, 2000, 2000), FULL);
    }

    static void p04FullIsEachTitlesOwn() {
        LicenceRows2 x = tenSpans();
        due("another title", x.title(0, 1), 1);
        due("its first span", x.cover(1, 2000, 2000), 1);
    }

    static void p04WhichRefusalComesFirst() {
        LicenceRows2 x = tenSpans();
        due("NONE before RANGE", x.cover(1, 5, 4), NONE);
        due("RANGE before STATE", x.cover(0, 20, 10), RANGE);
        due("RANGE before FULL", x.cover(0, 2000, 1999), RANGE);
        due("STATE before FULL", x.cover(0, 950, 960), STATE);
    }

    static void p04RefusedLeavesTheSpans() {
        LicenceRows2 x = spanned();
        due("RANGE", x.cover(0, 300, 299), RANGE);
        due("STATE", x.cover(0, 201, 300), STATE);
        due("spans", x.about(0, 3), 1);
        due("first", x.about(0, 6), 100);
        due("last", x.about(0, 7), 200);
        due("not covered", x.access(3, 0, 201, 400), 3);
    }

    static void p04FullLeavesTheSpans() {
        LicenceRows2 x = tenSpans();
        due("full", x.cover(0, 2000, 2000), FULL);
        due("spans", x.about(0, 3), 10);
        due("last", x.about(0, 7), 950);
        due("no gap", x.gap(0, 9, 0), NONE);
    }

    // Promise 5: embargo

    static void p05Title() {
        LicenceRows2 x = titles(2);
        due("-1", x.embargo(-1, 0, 0), NONE);
        due("1", x.embargo(1, 0, 0), 30);
        due("2", x.embargo(2, 0, 0), NONE);
        due("MIN", x.embargo(MIN, 0, 0), NONE);
        due("MAX", x.embargo(MAX, 0, 0), NONE);
    }

    static void p05MonthsTooSmall() {
        LicenceRows2 x = titles(1);
        due("-1", x.embargo(0, -1, 0), RANGE);
        due("MIN", x.embargo(0, MIN, 0), RANGE);
    }

    static void p05MonthsTooLarge() {
        LicenceRows2 x = titles(1);
        due("121", x.embargo(0, 121, 0), RANGE);
        due("MAX", x.embargo(0, MAX, 0), RANGE);
    }

    static void p05LeastMonths() {
        LicenceRows2 x = titles(1);
        due("0", x.embargo(0, 0, 300), 330);
        due("held", x.about(0, 4), 0);
    }

    static void p05MostMonths() {
        LicenceRows2 x = titles(1);
        due("120", x.embargo(0, 120, 6000), 2430);
        due("held", x.about(0, 4), 120);
    }

    static void p05DayTooSmall() {
        LicenceRows2 x = titles(1);
        due("-1", x.embargo(0, 1, -1), RANGE);
        due("MIN", x.embargo(0, 1, MIN), RANGE);
    }

    static void p05DayTooLarge() {
        LicenceRows2 x = titles(1);
        due("200001", x.embargo(0, 1, LAST + 1), RANGE);
        due("MAX", x.embargo(0, 1, MAX), RANGE);
    }

    static void p05FirstDay() {
        due("on day 0", titles(1).embargo(0, 0, 0), 30);
    }

    static void p05LastDay() {
        due("on day 200000", titles(1).embargo(0, 1, LAST), 199980);
    }

    static void p05MonthsAreCut() {
        LicenceRows2 x = titles(1);
        due("last day of month 3", x.embargo(0, 1, 119), 90);
        due("first day of month 4", x.embargo(0, 1, 120), 120);
        due("last day of month 4", x.embargo(0, 1, 149), 120);
        due("first day of month 5", x.embargo(0, 1, 150), 150);
    }

    static void p05AtLeastZero() {
        LicenceRows2 x = titles(1);
        due("0 by the count itself", x.embargo(0, 5, 149), 0);
        due("a month below 0", x.embargo(0, 6, 149), 0);
        due("far below 0", x.embargo(0, 120, 0), 0);
        due("a month above", x.embargo(0, 4, 149), 30);
    }

    static void p05MostMonthsAboveZero() {
        LicenceRows2 x = titles(1);
        due("month 119", x.embargo(0, 120, 3599), 0);
        due("month 120", x.embargo(0, 120, 3600), 30);
    }

    static void p05TheLeastDayIsEmbargoed() {
        LicenceRows2 x = open();
        due("least", x.embargo(0, 7, 1000), 810);
        due("the least", x.access(3, 0, 810, 1000), 4);
        due("the day below", x.access(3, 0, 809, 1000), 0);
    }

    static void p05NoMonthsFreeTheMonthItself() {
        LicenceRows2 x = open();
        due("least", x.embargo(0, 0, 45), 60);
        due("last day of the month", x.access(3, 0, 59, 30), 0);
        due("first day of the next", x.access(3, 0, 60, 59), 4);
    }

    static void p05OneMonthTakesTheMonthItself() {
        LicenceRows2 x = open();
        due("least", x.embargo(0, 1, 45), 30);
        due("first day of the month", x.access(3, 0, 30, 59), 4);
        due("last day of the one before", x.access(3, 0, 29, 30), 0);
    }

    static void p05NoMonthsAtFirst() {
        LicenceRows2 x = open();
        due("held", x.about(0, 4), 0);
        due("its month", x.access(3, 0, 29, 0), 0);
        due("next month", x.access(3, 0, 30, 29), 4);
    }

    static void p05NothingFreeBelowDayZero() {
        LicenceRows2 x = open();
        due("least", x.embargo(0, 7, 209), 0);
        due("month 6", x.access(3, 0, 0, 209), 4);
        due("month 7", x.access(3, 0, 0, 210), 0);
    }

    static void p05NextMonthBehindTheLastDay() {
        due("month 6667", titles(1).embargo(0, 0, LAST), 200010);
    }

    static void p05RefusedLeavesTheEmbargo() {
        LicenceRows2 x = titles(1);
        due("set", x.embargo(0, 5, 0), 0);
        due("months", x.embargo(0, 121, 0), RANGE);
        due("day", x.embargo(0, 7, LAST + 1), RANGE);
        due("held", x.about(0, 4), 5);
    }

    static void p05NoneBeforeRange() {
        due("both", titles(1).embargo(1, 121, -1), NONE);
    }

    static void p05OfAnotherTitle() {
        LicenceRows2 x = titles(2);
        due("set", x.embargo(0, 5, 0), 0);
        due("the other", x.about(1, 4), 0);
    }

    // Promise 6: rule

    static void p06Package() {
        LicenceRows2 x = packs(2);
        due("-1", x.rule(-1, 0, 1, 0), NONE);
        due("1", x.rule(1, 0, 1, 0), 0);
        due("2", x.rule(2, 0, 1, 0), NONE);
        due("MIN", x.rule(MIN, 0, 1, 0), NONE);
        due("MAX", x.rule(MAX, 0, 1, 0), NONE);
    }

    static void p06KindTooSmall() {
        LicenceRows2 x = packs(1);
        due("-1", x.rule(0, -1, 1, 0), RANGE);
        due("MIN", x.rule(0, MIN, 1, 0), RANGE);
    }

    static void p06KindTooLarge() {
        LicenceRows2 x = packs(1);
        due("4", x.rule(0, 4, 1, 0), RANGE);
        due("MAX", x.rule(0, MAX, 1, 0), RANGE);
    }

    static void p06EveryKind() {
        LicenceRows2 x = packs(1);
        for (int kind = 0; kind < 4; kind++) {
            due("kind " + kind, x.rule(0, kind, 1, 0), kind);
        }
    }

    static void p06DoesTooSmall() {
        LicenceRows2 x = packs(1);
        due("0", x.rule(0, 0, 0, 0), RANGE);
        due("-1", x.rule(0, 0, -1, 0), RANGE);
        due("MIN", x.rule(0, 0, MIN, 0), RANGE);
    }

    static void p06DoesTooLarge() {
        LicenceRows2 x = packs(1);
        due("3", x.rule(0, 0, 3, 0), RANGE);
        due("MAX", x.rule(0, 0, MAX, 0), RANGE);
    }

    static void p06BothItDoes() {
        LicenceRows2 x = packs(1);
        due("1", x.rule(0, 0, 1, 0), 0);
        due("2", x.rule(0, 0, 2, 0), 1);
    }

    static void p06ClassTooSmall() {
        LicenceRows2 x = packs(1);
        due("-1", x.rule(0, 0, 1, -1), RANGE);
        due("MIN", x.rule(0, 0, 1, MIN), RANGE);
    }

    static void p06ClassTooLarge() {
        LicenceRows2 x = packs(1);
        due("10", x.rule(0, 0, 1, 10), RANGE);
        due("MAX", x.rule(0, 0, 1, MAX), RANGE);
    }

    static void p06LeastAndLastClass() {
        LicenceRows2 x = packs(1);
        due("0", x.rule(0, 0, 1, 0), 0);
        due("9", x.rule(0, 0, 1, 9), 1);
    }

    static void p06EveryIntIsABoundOfNames() {
        LicenceRows2 x = packs(1);
        int[] bounds = {MIN, -1, 0, 10, 128, 1000001, MAX};
        for (int i = 0; i < bounds.length; i++) {
            due("bound " + bounds[i], x.rule(0, 1, 1, bounds[i]), i);
        }
    }

    static void p06MaskTooSmall() {
        LicenceRows2 x = packs(1);
        due("-1", x.rule(0, 2, 1, -1), RANGE);
        due("MIN", x.rule(0, 2, 1, MIN), RANGE);
    }

    static void p06MaskTooLarge() {
        LicenceRows2 x = packs(1);
        due("128", x.rule(0, 2, 1, 128), RANGE);
        due("MAX", x.rule(0, 2, 1, MAX), RANGE);
    }

    static void p06LeastAndLastMask() {
        LicenceRows2 x = packs(1);
        due("0", x.rule(0, 2, 1, 0), 0);
        due("127", x.rule(0, 2, 1, 127), 1);
    }

    static void p06BoundOfUsagesTooSmall() {
        LicenceRows2 x = packs(1);
        due("-1", x.rule(0, 3, 1, -1), RANGE);
        due("MIN", x.rule(0, 3, 1, MIN), RANGE);
    }

    static void p06BoundOfUsagesTooLarge() {
        LicenceRows2 x = packs(1);
        due("1000001", x.rule(0, 3, 1, 1000001), RANGE);
        due("MAX", x.rule(0, 3, 1, MAX), RANGE);
    }

    static void p06LeastAndLastBoundOfUsages() {
        LicenceRows2 x = packs(1);
        due("0", x.rule(0, 3, 1, 0), 0);
        due("1000000", x.rule(0, 3, 1, 1000000), 1);
    }

    private static LicenceRows2 hundredRules() {
        LicenceRows2 x = packs(2);
        for (int i = 0; i < 100; i++) {
            due("rule " + i, x.rule(0, 0, 2, 9), i);
        }
        return x;
    }

    static void p06HundredRules() {
        due("the last one", hundredRules().fails(99, true), 1);
    }

    static void p06Full() {
        due("rule 100", hundredRules().rule(0, 0, 1, 0), FULL);
    }

    static void p06FullOverAllPackages() {
        due("a package without rules", hundredRules().rule(1, 0, 1, 0), FULL);
    }

    static void p06FullMakesNone() {
        LicenceRows2 x = hundredRules();
        due("title", x.title(0, 10), 0);
        due("cover", x.cover(0, 0, 0), 1);
        due("in", x.in(0, 3), 1);
        due("full", x.rule(0, 3, 1, 0), FULL);
        due("rule 100", x.fails(100, true), NONE);
        due("none that allows", x.access(3, 0, 0, 0), 5);
    }

    static void p06WhichRefusalComesFirst() {
        LicenceRows2 x = hundredRules();
        due("NONE before RANGE", x.rule(2, 4, 0, -1), NONE);
        due("NONE before FULL", x.rule(2, 0, 1, 0), NONE);
        due("RANGE before FULL", x.rule(0, 0, 1, 10), RANGE);
    }

    static void p06RefusedTakesNoNumber() {
        LicenceRows2 x = ruleless();
        due("NONE", x.rule(1, 3, 1, 0), NONE);
        due("RANGE", x.rule(0, 3, 1, -1), RANGE);
        due("none made", x.fails(0, true), NONE);
        due("none asked", x.access(3, 0, 0, 0), 5);
        due("next", x.rule(0, 3, 1, 0), 0);
    }

    static void p06NoRulesRefuse() {
        due("an empty row", ruleless().access(3, 0, 0, 0), 5);
    }

    static void p06NoneFitsRefuses() {
        LicenceRows2 x = ruleless();
        due("another class", x.rule(0, 0, 1, 1), 0);
        due("no day", x.rule(0, 2, 1, 0), 1);
        due("none fits", x.access(3, 0, 0, 0), 5);
    }

    static void p06TheLastRuleDecides() {
        LicenceRows2 x = ruleless();
        for (int i = 0; i < 99; i++) {
            due("rule " + i, x.rule(0, 0, 2, 9), i);
        }
        due("the last", x.rule(0, 0, 1, 0), 99);
        due("fits", x.access(3, 0, 0, 0), 0);
    }

    static void p06TheFirstThatFitsDecides() {
        LicenceRows2 x = ruleless();
        due("another class", x.rule(0, 0, 2, 1), 0);
        due("allows", x.rule(0, 0, 1, 0), 1);
        due("refuses", x.rule(0, 0, 2, 0), 2);
        due("allowed", x.access(3, 0, 0, 0), 0);
        due("class 1", x.reader(3, 1), 1);
        due("refused", x.access(3, 0, 0, 0), 5);
    }

    static void p06RulesOfAnotherPackage() {
        LicenceRows2 x = ruleless();
        due("package", x.pack(true), 1);
        due("allows there", x.rule(1, 3, 1, 0), 0);
        due("none here", x.access(3, 0, 0, 0), 5);
        due("allows here", x.rule(0, 3, 1, 0), 1);
        due("one here", x.access(3, 0, 0, 0), 0);
    }

    static void p06NameBelowTheBound() {
        LicenceRows2 x = ruleless();
        due("bound 11", x.rule(0, 1, 1, 11), 0);
        due("name 10", x.access(3, 0, 0, 0), 0);
    }

    static void p06NameAtTheBound() {
        LicenceRows2 x = ruleless();
        due("bound 10", x.rule(0, 1, 1, 10), 0);
        due("name 10", x.access(3, 0, 0, 0), 5);
    }

    static void p06NoNameIsBelowTheLeastBound() {
        LicenceRows2 x = ruleless();
        due("bound MIN", x.rule(0, 1, 1, MIN), 0);
        due("name 10", x.access(3, 0, 0, 0), 5);
        due("renamed", x.provider(0, 10, MIN), 1);
        due("name MIN", x.access(3, 0, 0, 0), 5);
    }

    static void p06OneNameIsNotBelowTheLargestBound() {
        LicenceRows2 x = ruleless();
        due("bound MAX", x.rule(0, 1, 1, MAX), 0);
        due("renamed", x.provider(0, 10, MAX - 1), 1);
        due("name MAX - 1", x.access(3, 0, 0, 0), 0);
        due("renamed", x.provider(0, MAX - 1, MAX), 1);
        due("name MAX", x.access(3, 0, 0, 0), 5);
    }

    static void p06NamesFarApartAreCompared() {
        LicenceRows2 x = ruleless();
        due("bound MAX", x.rule(0, 1, 1, MAX), 0);
        due("renamed", x.provider(0, 10, MIN), 1);
        due("name MIN", x.access(3, 0, 0, 0), 0);
    }

    static void p06FirstAndLastDayOfTheWeek() {
        LicenceRows2 x = ruleless();
        due("bits 0 and 6", x.rule(0, 2, 1, 0b1000001), 0);
        int[] want = {0, 5, 5, 5, 5, 5, 0, 0, 5};
        for (int on = 0; on < want.length; on++) {
            due("on " + on, x.access(3, 0, 0, on), want[on]);
        }
    }

    static void p06WeekOfTheLastDay() {
        LicenceRows2 x = ruleless();
        due("200000 modulo 7 is 3", x.rule(0, 2, 1, 0b0001000), 0);
        due("on 200000", x.access(3, 0, 0, LAST), 0);
        due("on 199999", x.access(3, 0, 0, LAST - 1), 5);
    }

    static void p06WeekIsOfTheDayOnWhichItIsAsked() {
        LicenceRows2 x = ruleless();
        due("bit 1", x.rule(0, 2, 1, 0b0000010), 0);
        due("for 0, on 1", x.access(3, 0, 0, 1), 0);
        due("for 1, on 0", x.access(3, 0, 1, 0), 5);
    }

    static void p06EmptyAndFullMask() {
        LicenceRows2 x = ruleless();
        due("no day refuses", x.rule(0, 2, 2, 0), 0);
        due("every day allows", x.rule(0, 2, 1, 127), 1);
        for (int on = 0; on < 7; on++) {
            due("on " + on, x.access(3, 0, 0, on), 0);
        }
    }

    static void p06UsagesAtLeastTheBound() {
        LicenceRows2 x = ruleless();
        due("two refuse", x.rule(0, 3, 2, 2), 0);
        due("else allows", x.rule(0, 3, 1, 0), 1);
        due("none yet", x.access(3, 0, 0, 0), 0);
        due("one", x.access(3, 0, 0, 0), 0);
        due("two", x.access(3, 0, 0, 0), 5);
    }

    static void p06UsagesOfTheMonthOnly() {
        LicenceRows2 x = ruleless();
        due("one refuses", x.rule(0, 3, 2, 1), 0);
        due("else allows", x.rule(0, 3, 1, 0), 1);
        due("first day of month 1", x.access(3, 0, 0, 30), 0);
        due("last day of month 1", x.access(3, 0, 0, 59), 5);
        due("last day of month 0", x.access(3, 0, 0, 29), 0);
        due("first day of month 2", x.access(3, 0, 0, 60), 0);
    }

    static void p06UsagesOfTheReaderOnly() {
        LicenceRows2 x = ruleless();
        due("in", x.in(0, 2), 1);
        due("in", x.in(0, 4), 1);
        due("one refuses", x.rule(0, 3, 2, 1), 0);
        due("else allows", x.rule(0, 3, 1, 0), 1);
        due("reader 2", x.access(2, 0, 0, 0), 0);
        due("reader 4", x.access(4, 0, 0, 0), 0);
        due("reader 3", x.access(3, 0, 0, 0), 0);
        due("reader 3 again", x.access(3, 0, 0, 0), 5);
    }

    static void p06UsagesOfTheFirstReaderInTheFirstMonth() {
        LicenceRows2 x = ruleless();
        due("in", x.in(0, 0), 1);
        due("one refuses", x.rule(0, 3, 2, 1), 0);
        due("else allows", x.rule(0, 3, 1, 0), 1);
        due("none yet", x.access(0, 0, 0, 0), 0);
        due("one", x.access(0, 0, 0, 0), 5);
    }

    static void p06UsagesOfTheLastReaderInTheLastMonth() {
        LicenceRows2 x = ruleless();
        due("in", x.in(0, 99), 1);
        due("one refuses", x.rule(0, 3, 2, 1), 0);
        due("else allows", x.rule(0, 3, 1, 0), 1);
        due("none yet", x.access(99, 0, 0, 199980), 0);
        due("one", x.access(99, 0, 0, LAST), 5);
    }

    static void p06UsagesOfAllTitles() {
        LicenceRows2 x = ruleless();
        due("title", x.title(0, 11), 1);
        due("cover", x.cover(1, 0, 0), 1);
        due("one refuses", x.rule(0, 3, 2, 1), 0);
        due("else allows", x.rule(0, 3, 1, 0), 1);
        due("title 1", x.access(3, 1, 0, 0), 0);
        due("title 0", x.access(3, 0, 0, 0), 5);
    }

    static void p06OnlyUsagesCount() {
        LicenceRows2 x = ruleless();
        due("out", x.out(0, 3), NOBODY);
        due("one refuses", x.rule(0, 3, 2, 1), 0);
        due("else allows", x.rule(0, 3, 1, 0), 1);
        due("not in", x.access(3, 0, 0, 0), 6);
        due("in", x.in(0, 3), 1);
        due("none yet", x.access(3, 0, 0, 0), 0);
    }

    static void p06NoUsagesAreAtLeastZero() {
        LicenceRows2 x = ruleless();
        due("bound 0", x.rule(0, 3, 1, 0), 0);
        due("none yet", x.access(3, 0, 0, 0), 0);
    }

    // Promise 7: fails

    static void p07RuleBelow() {
        LicenceRows2 x = open();
        due("-1", x.fails(-1, true), NONE);
        due("MIN", x.fails(MIN, false), NONE);
    }

    static void p07RuleBehindTheLast() {
        LicenceRows2 x = open();
        due("0", x.fails(0, false), 1);
        due("1", x.fails(1, true), NONE);
        due("MAX", x.fails(MAX, true), NONE);
    }

    static void p07RuleBehindHundred() {
        due("100", hundredRules().fails(100, true), NONE);
    }

    static void p07NoneLeavesTheRules() {
        LicenceRows2 x = open();
        due("-1", x.fails(-1, true), NONE);
        due("1", x.fails(1, true), NONE);
        due("allowed", x.access(3, 0, 0, 0), 0);
        due("a rule that comes", x.rule(0, 3, 1, 0), 1);
        due("off", x.fails(0, true), 1);
        due("refused", x.access(3, 0, 0, 0), 5);
        due("by 0", x.failed(), 0);
    }

    static void p07NotAtFirst() {
        LicenceRows2 x = open();
        due("allowed", x.access(3, 0, 0, 0), 0);
        due("none failed", x.failed(), -1);
    }

    static void p07Twice() {
        LicenceRows2 x = open();
        due("on", x.fails(0, true), 1);
        due("on again", x.fails(0, true), 1);
        due("refused", x.access(3, 0, 0, 0), 5);
        due("off", x.fails(0, false), 1);
        due("off again", x.fails(0, false), 1);
        due("allowed", x.access(3, 0, 0, 0), 0);
    }

    static void p07FailingThatFits() {
        LicenceRows2 x = open();
        due("on", x.fails(0, true), 1);
        due("refused", x.access(3, 0, 0, 0), 5);
    }

    static void p07FailingThatDoesNotFit() {
        LicenceRows2 x = ruleless();
        due("another class", x.rule(0, 0, 1, 1), 0);
        due("allows", x.rule(0, 3, 1, 0), 1);
        due("on", x.fails(0, true), 1);
        due("refused", x.access(3, 0, 0, 0), 5);
        due("by 0", x.failed(), 0);
    }

    static void p07FailingThatIsNotComeTo() {
        LicenceRows2 x = open();
        due("behind", x.rule(0, 3, 2, 0), 1);
        due("on", x.fails(1, true), 1);
        due("allowed", x.access(3, 0, 0, 0), 0);
        due("none failed", x.failed(), -1);
        due("none told", x.told(0, 0), NONE);
    }

    static void p07FailingBehindARefusal() {
        LicenceRows2 x = ruleless();
        due("refuses", x.rule(0, 3, 2, 0), 0);
        due("behind", x.rule(0, 3, 1, 0), 1);
        due("on", x.fails(1, true), 1);
        due("refused", x.access(3, 0, 0, 0), 5);
        due("none failed", x.failed(), -1);
    }

    static void p07FailingOfAnotherPackage() {
        LicenceRows2 x = ruleless();
        due("package", x.pack(true), 1);
        due("there", x.rule(1, 3, 1, 0), 0);
        due("here", x.rule(0, 3, 1, 0), 1);
        due("on", x.fails(0, true), 1);
        due("allowed", x.access(3, 0, 0, 0), 0);
        due("none failed", x.failed(), -1);
    }

    static void p07TheFirstOfTwoFailing() {
        LicenceRows2 x = open();
        due("behind", x.rule(0, 3, 1, 0), 1);
        due("on", x.fails(1, true), 1);
        due("on", x.fails(0, true), 1);
        due("refused", x.access(3, 0, 0, 0), 5);
        due("by 0", x.failed(), 0);
        due("one row", x.told(1, 0), NONE);
    }

    static void p07TheLastRule() {
        LicenceRows2 x = hundredRules();
        due("title", x.title(0, 10), 0);
        due("cover", x.cover(0, 0, 0), 1);
        due("on", x.fails(99, true), 1);
        due("refused", x.access(3, 0, 0, 0), 5);
        due("by 99", x.failed(), 99);
    }

    // Promise 8: reader

    static void p08ReaderBelow() {
        LicenceRows2 x = new LicenceRows2();
        due("-1", x.reader(-1, 0), NONE);
        due("MIN", x.reader(MIN, 0), NONE);
    }

    static void p08ReaderBehindTheLast() {
        LicenceRows2 x = new LicenceRows2();
        due("100", x.reader(100, 0), NONE);
        due("MAX", x.reader(MAX, 0), NONE);
    }

    static void p08FirstAndLastReader() {
        LicenceRows2 x = new LicenceRows2();
        due("0", x.reader(0, 1), 1);
        due("99", x.reader(99, 1), 1);
    }

    static void p08ClassTooSmall() {
        LicenceRows2 x = new LicenceRows2();
        due("-1", x.reader(0, -1), RANGE);
        due("MIN", x.reader(0, MIN), RANGE);
    }

    static void p08ClassTooLarge() {
        LicenceRows2 x = new LicenceRows2();
        due("10", x.reader(0, 10), RANGE);
        due("MAX", x.reader(0, MAX), RANGE);
    }

    static void p08FirstAndLastClass() {
        LicenceRows2 x = ruleless();
        due("9 allows", x.rule(0, 0, 1, 9), 0);
        due("9", x.reader(3, 9), 1);
        due("of class 9", x.access(3, 0, 0, 0), 0);
        due("0", x.reader(3, 0), 1);
        due("of class 0", x.access(3, 0, 0, 0), 5);
    }

    static void p08ClassesBesideTheRulesDoNotFit() {
        LicenceRows2 x = ruleless();
        due("5 allows", x.rule(0, 0, 1, 5), 0);
        due("4", x.reader(3, 4), 1);
        due("of class 4", x.access(3, 0, 0, 0), 5);
        due("6", x.reader(3, 6), 1);
        due("of class 6", x.access(3, 0, 0, 0), 5);
        due("5", x.reader(3, 5), 1);
        due("of class 5", x.access(3, 0, 0, 0), 0);
    }

    static void p08ClassZeroAtFirst() {
        LicenceRows2 x = ruleless();
        due("99 in", x.in(0, 99), 1);
        due("0 allows", x.rule(0, 0, 1, 0), 0);
        due("reader 3", x.access(3, 0, 0, 0), 0);
        due("reader 99", x.access(99, 0, 0, 0), 0);
    }

    static void p08RefusedLeavesTheClass() {
        LicenceRows2 x = ruleless();
        due("4 allows", x.rule(0, 0, 1, 4), 0);
        due("4", x.reader(3, 4), 1);
        due("10", x.reader(3, 10), RANGE);
        due("-1", x.reader(3, -1), RANGE);
        due("still 4", x.access(3, 0, 0, 0), 0);
    }

    static void p08OfAnotherReader() {
        LicenceRows2 x = ruleless();
        due("0 allows", x.rule(0, 0, 1, 0), 0);
        due("reader 2", x.reader(2, 4), 1);
        due("reader 4", x.reader(4, 4), 1);
        due("reader 3", x.access(3, 0, 0, 0), 0);
    }

    static void p08NoneBeforeRange() {
        due("both", new LicenceRows2().reader(100, 10), NONE);
    }

    // Promise 9: room

    static void p09Package() {
        LicenceRows2 x = packs(2);
        due("-1", x.room(-1, 1), NONE);
        due("1", x.room(1, 1), 0);
        due("2", x.room(2, 1), NONE);
        due("MIN", x.room(MIN, 1), NONE);
        due("MAX", x.room(MAX, 1), NONE);
    }

    static void p09TooSmall() {
        LicenceRows2 x = packs(1);
        due("-1", x.room(0, -1), RANGE);
        due("MIN", x.room(0, MIN), RANGE);
    }

    static void p09TooLarge() {
        LicenceRows2 x = packs(1);
        due("101", x.room(0, 101), RANGE);
        due("MAX", x.room(0, MAX), RANGE);
    }

    static void p09RoomForNobody() {
        LicenceRows2 x = packs(1);
        due("0", x.room(0, 0), 0);
        due("waits", x.in(0, 0), 0);
    }

    static void p09RoomForOne() {
        LicenceRows2 x = packs(1);
        due("1", x.room(0, 1), 0);
        due("in", x.in(0, 0), 1);
        due("waits", x.in(0, 1), 0);
    }

    static void p09RoomForAllButOne() {
        LicenceRows2 x = packs(1);
        due("99", x.room(0, 99), 0);
        for (int r = 0; r < 99; r++) {
            due("in " + r, x.in(0, r), 1);
        }
        due("waits", x.in(0, 99), 0);
        due("100", x.room(0, 100), 1);
    }

    static void p09RoomForAllAtFirst() {
        LicenceRows2 x = packs(1);
        for (int r = 0; r < 100; r++) {
            due("in " + r, x.in(0, r), 1);
        }
    }

    static void p09FromNobodyToAll() {
        LicenceRows2 x = packs(1);
        due("0", x.room(0, 0), 0);
        for (int r = 99; r >= 0; r--) {
            due("waits " + r, x.in(0, r), 0);
        }
        due("100", x.room(0, 100), 100);
        due("in", x.who(0, 0), 100);
        due("waiting", x.who(0, 1), 0);
        due("first", x.who(0, 2), 99);
        due("last", x.who(0, 200), 0);
    }

    static void p09RaisedByOne() {
        LicenceRows2 x = crowded();
        due("2", x.room(0, 2), 1);
        due("who came first", x.who(0, 4), 8);
        due("who waits", x.who(0, 3), 9);
    }

    static void p09RaisedAboveWhoWaits() {
        LicenceRows2 x = crowded();
        due("50", x.room(0, 50), 2);
        due("again", x.room(0, 100), 0);
    }

    static void p09TheSameAgain() {
        LicenceRows2 x = crowded();
        due("1", x.room(0, 1), 0);
        due("waiting", x.who(0, 1), 2);
    }

    static void p09NobodyIsSentOut() {
        LicenceRows2 x = packs(1);
        due("in 1", x.in(0, 1), 1);
        due("in 2", x.in(0, 2), 1);
        due("0", x.room(0, 0), 0);
        due("in", x.who(0, 0), 2);
        due("a third waits", x.in(0, 3), 0);
    }

    static void p09RaisedBelowWhoIsIn() {
        LicenceRows2 x = packs(1);
        for (int r = 0; r < 4; r++) {
            due("in " + r, x.in(0, r), 1);
        }
        due("1", x.room(0, 1), 0);
        due("waits", x.in(0, 9), 0);
        due("3", x.room(0, 3), 0);
        due("4", x.room(0, 4), 0);
        due("5", x.room(0, 5), 1);
    }

    static void p09RefusedLeavesTheRoom() {
        LicenceRows2 x = crowded();
        due("101", x.room(0, 101), RANGE);
        due("-1", x.room(0, -1), RANGE);
        due("waiting", x.who(0, 1), 2);
        due("out", x.out(0, 7), 8);
        due("waits", x.in(0, 7), 0);
    }

    static void p09OfAnotherPackage() {
        LicenceRows2 x = packs(2);
        due("0", x.room(0, 0), 0);
        due("in", x.in(1, 0), 1);
    }

    static void p09NoneBeforeRange() {
        due("both", packs(1).room(1, 101), NONE);
    }

    // Promise 10: in

    static void p10Package() {
        LicenceRows2 x = packs(2);
        due("-1", x.in(-1, 0), NONE);
        due("1", x.in(1, 0), 1);
        due("2", x.in(2, 0), NONE);
        due("MIN", x.in(MIN, 0), NONE);
        due("MAX", x.in(MAX, 0), NONE);
    }

    static void p10ReaderBelow() {
        LicenceRows2 x = packs(1);
        due("-1", x.in(0, -1), NONE);
        due("MIN", x.in(0, MIN), NONE);
    }

    static void p10ReaderBehindTheLast() {
        LicenceRows2 x = packs(1);
        due("100", x.in(0, 100), NONE);
        due("MAX", x.in(0, MAX), NONE);
    }

    static void p10FirstAndLastReader() {
        LicenceRows2 x = packs(1);
        due("0", x.in(0, 0), 1);
        due("99", x.in(0, 99), 1);
    }

    static void p10TheLastPlace() {
        LicenceRows2 x = packs(1);
        due("room", x.room(0, 2), 0);
        due("first", x.in(0, 5), 1);
        due("the last place", x.in(0, 6), 1);
        due("no place", x.in(0, 7), 0);
    }

    static void p10InAlready() {
        due("7", crowded().in(0, 7), STATE);
    }

    static void p10WaitsAlready() {
        due("the first", crowded().in(0, 8), STATE);
        due("the last", crowded().in(0, 9), STATE);
    }

    static void p10InAlreadyWhereThereIsRoom() {
        LicenceRows2 x = packs(1);
        due("in", x.in(0, 7), 1);
        due("again", x.in(0, 7), STATE);
    }

    static void p10RefusedLeavesTheRows() {
        LicenceRows2 x = crowded();
        due("in already", x.in(0, 7), STATE);
        due("waits already", x.in(0, 8), STATE);
        due("no reader", x.in(0, 100), NONE);
        due("in", x.who(0, 0), 1);
        due("waiting", x.who(0, 1), 2);
        due("order", x.who(0, 3), 8);
    }

    static void p10InOthersToo() {
        LicenceRows2 x = packs(20);
        for (int p = 0; p < 20; p++) {
            due("package " + p, x.in(p, 7), 1);
        }
    }

    static void p10InOneAndWaitingInAnother() {
        LicenceRows2 x = packs(2);
        due("room", x.room(1, 0), 0);
        due("in", x.in(0, 7), 1);
        due("waits", x.in(1, 7), 0);
        due("out of the other", x.out(0, 7), NOBODY);
        due("waits still", x.who(1, 3), 7);
    }

    static void p10AllReadersWait() {
        LicenceRows2 x = packs(1);
        due("room", x.room(0, 0), 0);
        for (int r = 0; r < 100; r++) {
            due("waits " + r, x.in(0, r), 0);
        }
        due("the last again", x.in(0, 99), STATE);
        due("waiting", x.who(0, 1), 100);
    }

    static void p10AgainAfterOut() {
        LicenceRows2 x = crowded();
        due("out", x.out(0, 7), 8);
        due("behind the others", x.in(0, 7), 0);
        due("first", x.who(0, 3), 9);
        due("last", x.who(0, 5), 7);
    }

    // Promise 11: out

    static void p11Package() {
        LicenceRows2 x = packs(2);
        due("in", x.in(1, 0), 1);
        due("-1", x.out(-1, 0), NONE);
        due("2", x.out(2, 0), NONE);
        due("MIN", x.out(MIN, 0), NONE);
        due("MAX", x.out(MAX, 0), NONE);
        due("1", x.out(1, 0), NOBODY);
    }

    static void p11ReaderBelow() {
        LicenceRows2 x = packs(1);
        due("-1", x.out(0, -1), NONE);
        due("MIN", x.out(0, MIN), NONE);
    }

    static void p11ReaderBehindTheLast() {
        LicenceRows2 x = packs(1);
        due("100", x.out(0, 100), NONE);
        due("MAX", x.out(0, MAX), NONE);
    }

    static void p11FirstAndLastReader() {
        LicenceRows2 x = packs(1);
        due("in 0", x.in(0, 0), 1);
        due("in 99", x.in(0, 99), 1);
        due("out 0", x.out(0, 0), NOBODY);
        due("out 99", x.out(0, 99), NOBODY);
    }

    static void p11NeitherInNorWaiting() {
        due("an empty package", packs(1).out(0, 7), STATE);
        due("a crowded one", crowded().out(0, 6), STATE);
    }

    static void p11OutAlready() {
        LicenceRows2 x = packs(1);
        due("in", x.in(0, 7), 1);
        due("out", x.out(0, 7), NOBODY);
        due("again", x.out(0, 7), STATE);
    }

    static void p11WaitsNoMoreAlready() {
        LicenceRows2 x = crowded();
        due("waits no more", x.out(0, 8), NOBODY);
        due("again", x.out(0, 8), STATE);
    }

    static void p11InAnotherPackageOnly() {
        LicenceRows2 x = packs(2);
        due("in", x.in(0, 7), 1);
        due("the other", x.out(1, 7), STATE);
        due("still in", x.who(0, 0), 1);
    }

    static void p11WhoCameFirstIsIn() {
        LicenceRows2 x = crowded();
        due("7 goes", x.out(0, 7), 8);
        due("8 goes", x.out(0, 8), 9);
        due("9 goes", x.out(0, 9), NOBODY);
    }

    static void p11ReaderZeroIsIn() {
        LicenceRows2 x = packs(1);
        due("room", x.room(0, 1), 0);
        due("in", x.in(0, 7), 1);
        due("waits", x.in(0, 0), 0);
        due("by that", x.out(0, 7), 0);
    }

    static void p11NobodyWaits() {
        LicenceRows2 x = packs(1);
        due("in", x.in(0, 7), 1);
        due("nobody", x.out(0, 7), NOBODY);
        due("empty", x.who(0, 0), 0);
    }

    static void p11WhoWaitsLetsNobodyIn() {
        LicenceRows2 x = crowded();
        due("8 waits no more", x.out(0, 8), NOBODY);
        due("in", x.who(0, 0), 1);
        due("waiting", x.who(0, 1), 1);
        due("next", x.out(0, 7), 9);
    }

    static void p11FromAPackageTooFull() {
        LicenceRows2 x = packs(1);
        for (int r = 1; r <= 3; r++) {
            due("in " + r, x.in(0, r), 1);
        }
        due("less room", x.room(0, 2), 0);
        due("waits", x.in(0, 9), 0);
        due("now two, no place", x.out(0, 1), NOBODY);
        due("now one, a place", x.out(0, 2), 9);
    }

    static void p11FromAPackageWithoutRoom() {
        LicenceRows2 x = crowded();
        due("no room", x.room(0, 0), 0);
        due("nobody", x.out(0, 7), NOBODY);
        due("in", x.who(0, 0), 0);
        due("waiting", x.who(0, 1), 2);
    }

    static void p11RefusedLeavesTheRows() {
        LicenceRows2 x = crowded();
        due("STATE", x.out(0, 6), STATE);
        due("NONE", x.out(0, 100), NONE);
        due("in", x.who(0, 2), 7);
        due("waiting", x.who(0, 1), 2);
    }

    static void p11TheFirstAndTheLastOfTheRow() {
        LicenceRows2 x = packs(1);
        for (int r = 0; r < 100; r++) {
            due("in " + r, x.in(0, r), 1);
        }
        due("the first", x.out(0, 0), NOBODY);
        due("the last", x.out(0, 99), NOBODY);
        due("in", x.who(0, 0), 98);
        due("first now", x.who(0, 2), 1);
        due("last now", x.who(0, 2 + 2 * 97), 98);
    }

    // Promise 12: access

    static void p12ReaderBelow() {
        LicenceRows2 x = open();
        due("-1", x.access(-1, 0, 0, 0), NONE);
        due("MIN", x.access(MIN, 0, 0, 0), NONE);
    }

    static void p12ReaderBehindTheLast() {
        LicenceRows2 x = open();
        due("99", x.access(99, 0, 0, 0), 6);
        due("100", x.access(100, 0, 0, 0), NONE);
        due("MAX", x.access(MAX, 0, 0, 0), NONE);
    }

    static void p12FirstAndLastReader() {
        LicenceRows2 x = open();
        due("in 0", x.in(0, 0), 1);
        due("in 99", x.in(0, 99), 1);
        due("0", x.access(0, 0, 0, 0), 0);
        due("99", x.access(99, 0, 0, 0), 0);
    }

    static void p12TitleBelow() {
        LicenceRows2 x = open();
        due("-1", x.access(3, -1, 0, 0), NONE);
        due("MIN", x.access(3, MIN, 0, 0), NONE);
    }

    static void p12TitleBehindTheLast() {
        LicenceRows2 x = open();
        due("1", x.access(3, 1, 0, 0), NONE);
        due("MAX", x.access(3, MAX, 0, 0), NONE);
    }

    static void p12TheLastTitle() {
        LicenceRows2 x = titles(200);
        due("cover", x.cover(199, 0, 0), 1);
        due("rule", x.rule(0, 3, 1, 0), 0);
        due("in", x.in(0, 3), 1);
        due("199", x.access(3, 199, 0, 0), 0);
        due("200", x.access(3, 200, 0, 0), NONE);
        due("counted", x.about(199, 5), 1);
    }

    static void p12DayTooSmall() {
        LicenceRows2 x = open();
        due("-1", x.access(3, 0, -1, 0), RANGE);
        due("MIN", x.access(3, 0, MIN, 0), RANGE);
    }

    static void p12DayTooLarge() {
        LicenceRows2 x = open();
        due("200001", x.access(3, 0, LAST + 1, LAST), RANGE);
        due("MAX", x.access(3, 0, MAX, LAST), RANGE);
    }

    static void p12OnTooSmall() {
        LicenceRows2 x = open();
        due("-1", x.access(3, 0, 0, -1), RANGE);
        due("MIN", x.access(3, 0, 0, MIN), RANGE);
    }

    static void p12OnTooLarge() {
        LicenceRows2 x = open();
        due("200001", x.access(3, 0, 0, LAST + 1), RANGE);
        due("MAX", x.access(3, 0, 0, MAX), RANGE);
    }

    static void p12FirstDay() {
        due("0 on 0", open().access(3, 0, 0, 0), 0);
    }

    static void p12LastDay() {
        due("200000 on 200000", open().access(3, 0, LAST, LAST), 0);
    }

    static void p12NoneBeforeRange() {
        LicenceRows2 x = open();
        due("reader", x.access(100, 0, -1, -1), NONE);
        due("title", x.access(3, 1, -1, -1), NONE);
    }

    static void p12RangeBeforeTheRest() {
        LicenceRows2 x = open();
        due("turned", x.provider(0, 10, 10), 1);
        due("not active", x.access(3, 0, -1, 0), RANGE);
    }

    static void p12FromBelongsToASpan() {
        LicenceRows2 x = spanned();
        due("99", x.access(3, 0, 99, 400), 3);
        due("100", x.access(3, 0, 100, 400), 0);
    }

    static void p12ToBelongsToASpan() {
        LicenceRows2 x = spanned();
        due("200", x.access(3, 0, 200, 400), 0);
        due("201", x.access(3, 0, 201, 400), 3);
    }

    static void p12NoSpans() {
        LicenceRows2 x = titles(1);
        due("rule", x.rule(0, 3, 1, 0), 0);
        due("in", x.in(0, 3), 1);
        due("day 0", x.access(3, 0, 0, 0), 3);
    }

    static void p12TheLastOfTenSpans() {
        LicenceRows2 x = tenSpans();
        due("rule", x.rule(0, 3, 1, 0), 0);
        due("in", x.in(0, 3), 1);
        due("899", x.access(3, 0, 899, 2000), 3);
        due("900", x.access(3, 0, 900, 2000), 0);
        due("950", x.access(3, 0, 950, 2000), 0);
        due("951", x.access(3, 0, 951, 2000), 3);
    }

    static void p12EndedFromTheDayOn() {
        LicenceRows2 x = open();
        due("end", x.end(0, 100), 1);
        due("on 99", x.access(3, 0, 100, 99), 0);
        due("on 100", x.access(3, 0, 100, 100), 2);
        due("on 101", x.access(3, 0, 100, 101), 2);
    }

    static void p12KeptBelowTheDay() {
        LicenceRows2 x = open();
        due("end", x.end(0, 100), 1);
        due("99", x.access(3, 0, 99, 100), 0);
        due("100", x.access(3, 0, 100, 100), 2);
        due("0", x.access(3, 0, 0, LAST), 0);
    }

    static void p12NothingKept() {
        LicenceRows2 x = new LicenceRows2();
        due("pack", x.pack(false), 0);
        due("title", x.title(0, 10), 0);
        due("cover", x.cover(0, 0, LAST), 1);
        due("rule", x.rule(0, 3, 1, 0), 0);
        due("in", x.in(0, 3), 1);
        due("end", x.end(0, 100), 1);
        due("on 99", x.access(3, 0, 99, 99), 0);
        due("99 on 100", x.access(3, 0, 99, 100), 2);
        due("0 on 200000", x.access(3, 0, 0, LAST), 2);
    }

    static void p12EndedOnTheFirstDay() {
        LicenceRows2 x = open();
        due("end", x.end(0, 0), 1);
        due("0 on 0", x.access(3, 0, 0, 0), 2);
    }

    static void p12EndedOnTheLastDay() {
        LicenceRows2 x = open();
        due("end", x.end(0, LAST), 0);
        due("on 199999", x.access(3, 0, LAST, LAST - 1), 0);
        due("on 200000", x.access(3, 0, LAST, LAST), 2);
        due("199999 is kept", x.access(3, 0, LAST - 1, LAST), 0);
    }

    static void p12EndOfAnotherPackage() {
        LicenceRows2 x = open();
        due("package", x.pack(true), 1);
        due("end", x.end(1, 0), 0);
        due("here", x.access(3, 0, 0, 0), 0);
    }

    static void p12KeptIsNotCovered() {
        LicenceRows2 x = spanned();
        due("end", x.end(0, 150), 1);
        due("99", x.access(3, 0, 99, 400), 3);
        due("100", x.access(3, 0, 100, 400), 0);
        due("150", x.access(3, 0, 150, 400), 2);
    }

    static void p12OneBeforeTwo() {
        LicenceRows2 x = open();
        due("end", x.end(0, 0), 1);
        due("turned", x.provider(0, 10, 10), 1);
        due("both hold", x.access(3, 0, 0, 0), 1);
    }

    static void p12TwoBeforeThree() {
        LicenceRows2 x = spanned();
        due("end", x.end(0, 50), 1);
        due("both hold", x.access(3, 0, 99, 50), 2);
    }

    static void p12ThreeBeforeFour() {
        LicenceRows2 x = spanned();
        due("both hold", x.access(3, 0, 99, 0), 3);
    }

    static void p12FourBeforeFive() {
        due("both hold", ruleless().access(3, 0, 30, 29), 4);
    }

    static void p12FiveBeforeSix() {
        due("both hold", ruleless().access(4, 0, 0, 0), 5);
    }

    static void p12WhoWaitsIsNotIn() {
        LicenceRows2 x = open();
        due("room", x.room(0, 1), 0);
        due("waits", x.in(0, 4), 0);
        due("waiting", x.access(4, 0, 0, 0), 6);
        due("out", x.out(0, 3), 4);
        due("in", x.access(4, 0, 0, 0), 0);
        due("gone", x.access(3, 0, 0, 0), 6);
    }

    static void p12InAnotherPackageOnly() {
        LicenceRows2 x = open();
        due("package", x.pack(true), 1);
        due("in there", x.in(1, 4), 1);
        due("not here", x.access(4, 0, 0, 0), 6);
    }

    static void p12TurnedTwiceIsActive() {
        LicenceRows2 x = open();
        due("turned", x.provider(0, 10, 10), 1);
        due("not active", x.access(3, 0, 0, 0), 1);
        due("turned", x.provider(0, 10, 10), 1);
        due("active", x.access(3, 0, 0, 0), 0);
    }

    static void p12RefusedIsNoUsage() {
        LicenceRows2 x = open();
        due("reader", x.access(100, 0, 0, 0), NONE);
        due("day", x.access(3, 0, -1, 0), RANGE);
        due("on", x.access(3, 0, 0, -1), RANGE);
        due("in all", x.about(0, 5), 0);
        due("month 0", x.usage(0, 0), 0);
    }

    static void p12OneToSixAreNoUsages() {
        LicenceRows2 x = spanned();
        due("6", x.access(4, 0, 100, 120), 6);
        due("fails", x.fails(0, true), 1);
        due("5", x.access(3, 0, 100, 120), 5);
        due("4", x.access(3, 0, 100, 0), 4);
        due("3", x.access(3, 0, 99, 120), 3);
        due("end", x.end(0, 0), 1);
        due("2", x.access(3, 0, 100, 120), 2);
        due("turned", x.provider(0, 10, 10), 1);
        due("1", x.access(3, 0, 100, 120), 1);
        due("in all", x.about(0, 5), 0);
        due("month 4", x.usage(0, 4), 0);
    }

    // Promise 13: failed

    static void p13AtFirst() {
        due("nothing asked", open().failed(), -1);
    }

    static void p13FailingIsNotFailedYet() {
        LicenceRows2 x = open();
        due("on", x.fails(0, true), 1);
        due("nothing asked", x.failed(), -1);
    }

    private static LicenceRows2 failedOnce() {
        LicenceRows2 x = open();
        due("on", x.fails(0, true), 1);
        due("refused", x.access(3, 0, 0, 0), 5);
        due("by 0", x.failed(), 0);
        return x;
    }

    static void p13RefusedAccessLeavesIt() {
        LicenceRows2 x = failedOnce();
        due("off", x.fails(0, false), 1);
        due("reader", x.access(100, 0, 0, 0), NONE);
        due("title", x.access(3, 1, 0, 0), NONE);
        due("day", x.access(3, 0, LAST + 1, 0), RANGE);
        due("by 0 still", x.failed(), 0);
    }

    static void p13AccessThatAskedNoRulesLeavesIt() {
        LicenceRows2 x = failedOnce();
        due("off", x.fails(0, false), 1);
        due("title", x.title(0, 11), 1);
        due("4", x.access(3, 0, 30, 0), 4);
        due("3", x.access(3, 1, 0, 0), 3);
        due("end", x.end(0, 50), 1);
        due("2", x.access(3, 0, 50, 50), 2);
        due("turned", x.provider(0, 10, 10), 1);
        due("1", x.access(3, 0, 0, 0), 1);
        due("by 0 still", x.failed(), 0);
    }

    static void p13AccessThatNoneFailedIn() {
        LicenceRows2 x = failedOnce();
        due("off", x.fails(0, false), 1);
        due("by 0 still", x.failed(), 0);
        due("allowed", x.access(3, 0, 0, 0), 0);
        due("none", x.failed(), -1);
    }

    static void p13NotInAskedTheRules() {
        LicenceRows2 x = failedOnce();
        due("off", x.fails(0, false), 1);
        due("6", x.access(4, 0, 0, 0), 6);
        due("none", x.failed(), -1);
    }

    static void p13RefusedByNoRuleAtAll() {
        LicenceRows2 x = failedOnce();
        due("package", x.pack(true), 1);
        due("title", x.title(1, 10), 1);
        due("cover", x.cover(1, 0, 0), 1);
        due("an empty row", x.access(3, 1, 0, 0), 5);
        due("none", x.failed(), -1);
    }

    static void p13RefusedByARuleThatFits() {
        LicenceRows2 x = failedOnce();
        due("off", x.fails(0, false), 1);
        due("package", x.pack(true), 1);
        due("title", x.title(1, 10), 1);
        due("cover", x.cover(1, 0, 0), 1);
        due("refuses", x.rule(1, 3, 2, 0), 1);
        due("refused", x.access(3, 1, 0, 0), 5);
        due("none", x.failed(), -1);
    }

    static void p13AskingTwice() {
        LicenceRows2 x = failedOnce();
        due("again", x.failed(), 0);
        due("and again", x.failed(), 0);
    }

    // Promise 14: provider

    static void p14Package() {
        LicenceRows2 x = titles(1);
        due("-1", x.provider(-1, 10, 10), NONE);
        due("1", x.provider(1, 10, 10), NONE);
        due("MIN", x.provider(MIN, 10, 10), NONE);
        due("MAX", x.provider(MAX, 10, 10), NONE);
    }

    static void p14NonePackageIsNotTold() {
        LicenceRows2 x = titles(1);
        due("1", x.provider(1, 5, 6), NONE);
        due("not told", x.told(0, 0), NONE);
    }

    static void p14NoSuchTitle() {
        LicenceRows2 x = titles(1);
        due("another name", x.provider(0, 9, 8), 0);
        due("the same name", x.provider(0, 9, 9), 0);
        due("told", x.told(0, 1), 9);
        due("told", x.told(1, 1), 9);
        due("no third", x.told(2, 0), NONE);
    }

    static void p14NoTitleAtAll() {
        LicenceRows2 x = packs(1);
        due("an empty package", x.provider(0, 0, 0), 0);
        due("told", x.told(0, 1), 0);
    }

    static void p14TitleOfAnotherPackage() {
        LicenceRows2 x = packs(2);
        due("there", x.title(1, 10), 0);
        due("not here", x.provider(0, 10, 10), 0);
        due("active there", x.about(0, 2), 1);
    }

    static void p14NoSuchTitleLeavesTheOthers() {
        LicenceRows2 x = titles(1);
        due("to a name that is there", x.provider(0, 9, 10), 0);
        due("name", x.about(0, 1), 10);
        due("active", x.about(0, 2), 1);
    }

    static void p14AnotherTitleHasTheName() {
        due("11", titles(2).provider(0, 10, 11), STATE);
        due("10", titles(2).provider(0, 11, 10), STATE);
    }

    static void p14AnotherTitleNotActiveHasTheName() {
        LicenceRows2 x = titles(2);
        due("turned", x.provider(0, 11, 11), 1);
        due("11", x.provider(0, 10, 11), STATE);
    }

    static void p14StateLeavesAll() {
        LicenceRows2 x = titles(2);
        due("11", x.provider(0, 10, 11), STATE);
        due("name 0", x.about(0, 1), 10);
        due("name 1", x.about(1, 1), 11);
        due("active 0", x.about(0, 2), 1);
        due("active 1", x.about(1, 2), 1);
        due("not told", x.told(0, 0), NONE);
    }

    static void p14TheNameOfAnotherPackage() {
        LicenceRows2 x = packs(2);
        due("here", x.title(0, 10), 0);
        due("there", x.title(1, 11), 1);
        due("renamed", x.provider(0, 10, 11), 1);
        due("name", x.about(0, 1), 11);
    }

    static void p14TheSameNameTurns() {
        LicenceRows2 x = titles(2);
        due("turned", x.provider(0, 10, 10), 1);
        due("not active", x.about(0, 2), 0);
        due("name", x.about(0, 1), 10);
        due("the other", x.about(1, 2), 1);
        due("turned", x.provider(0, 10, 10), 1);
        due("active", x.about(0, 2), 1);
    }

    static void p14AnotherNameDoesNotTurn() {
        LicenceRows2 x = titles(1);
        due("renamed", x.provider(0, 10, 11), 1);
        due("active", x.about(0, 2), 1);
        due("turned", x.provider(0, 11, 11), 1);
        due("renamed", x.provider(0, 11, 10), 1);
        due("not active", x.about(0, 2), 0);
    }

    static void p14OldNameIsGone() {
        LicenceRows2 x = titles(1);
        due("renamed", x.provider(0, 10, 11), 1);
        due("the old one", x.provider(0, 10, 10), 0);
        due("back", x.provider(0, 11, 10), 1);
    }

    static void p14LeastAndLargestName() {
        LicenceRows2 x = titles(1);
        due("to MIN", x.provider(0, 10, MIN), 1);
        due("to MAX", x.provider(0, MIN, MAX), 1);
        due("turned", x.provider(0, MAX, MAX), 1);
        due("name", x.about(0, 1), MAX);
    }

    static void p14TheLastTitle() {
        LicenceRows2 x = titles(200);
        due("renamed", x.provider(0, 209, 1), 1);
        due("name", x.about(199, 1), 1);
        due("taken", x.provider(0, 10, 1), STATE);
    }

    static void p14RowsToldWhenFull() {
        LicenceRows2 x = packs(1);
        for (int i = 0; i < 101; i++) {
            due("row " + i, x.provider(0, i, i), 0);
        }
        due("answers still", x.provider(0, 7, 7), 0);
    }

    // Promise 15: end

    static void p15Package() {
        LicenceRows2 x = packs(2);
        due("-1", x.end(-1, 0), NONE);
        due("1", x.end(1, 0), 0);
        due("2", x.end(2, 0), NONE);
        due("MIN", x.end(MIN, 0), NONE);
        due("MAX", x.end(MAX, 0), NONE);
    }

    static void p15DayTooSmall() {
        LicenceRows2 x = packs(1);
        due("-1", x.end(0, -1), RANGE);
        due("MIN", x.end(0, MIN), RANGE);
    }

    static void p15DayTooLarge() {
        LicenceRows2 x = packs(1);
        due("200001", x.end(0, LAST + 1), RANGE);
        due("MAX", x.end(0, MAX), RANGE);
    }

    static void p15FirstDay() {
        LicenceRows2 x = packs(1);
        due("0", x.end(0, 0), 0);
        due("ended", x.end(0, 0), STATE);
    }

    static void p15LastDay() {
        LicenceRows2 x = open();
        due("200000", x.end(0, LAST), 0);
        due("ended", x.end(0, LAST), STATE);
    }

    static void p15EndedAlready() {
        LicenceRows2 x = packs(1);
        due("100", x.end(0, 100), 0);
        due("the same day", x.end(0, 100), STATE);
        due("a day before", x.end(0, 99), STATE);
        due("a day behind", x.end(0, 101), STATE);
    }

    static void p15RangeIsNoEnd() {
        LicenceRows2 x = open();
        due("-1", x.end(0, -1), RANGE);
        due("200001", x.end(0, LAST + 1), RANGE);
        due("not ended", x.access(3, 0, LAST, LAST), 0);
        due("ends", x.end(0, 100), 1);
    }

    static void p15StateLeavesTheDay() {
        LicenceRows2 x = open();
        due("100", x.end(0, 100), 1);
        due("50", x.end(0, 50), STATE);
        due("150", x.end(0, 150), STATE);
        due("99 on 100", x.access(3, 0, 99, 100), 0);
        due("100 on 100", x.access(3, 0, 100, 100), 2);
        due("100 on 99", x.access(3, 0, 100, 99), 0);
    }

    static void p15WhichRefusalComesFirst() {
        LicenceRows2 x = packs(1);
        due("NONE before RANGE", x.end(1, -1), NONE);
        due("ends", x.end(0, 0), 0);
        due("RANGE before STATE", x.end(0, -1), RANGE);
    }

    static void p15SpanToTheDay() {
        due("to 200, ends 200", spanned().end(0, 200), 0);
    }

    static void p15SpanADayBehind() {
        due("to 200, ends 199", spanned().end(0, 199), 1);
    }

    static void p15SpanThatBeginsBehind() {
        due("from 100, ends 99", spanned().end(0, 99), 1);
        due("from 100, ends 0", spanned().end(0, 0), 1);
    }

    static void p15SpanOfTheLastDay() {
        LicenceRows2 x = titles(1);
        due("cover", x.cover(0, LAST, LAST), 1);
        due("ends 199999", x.end(0, LAST - 1), 1);
    }

    static void p15NoTitles() {
        due("none", packs(1).end(0, 0), 0);
    }

    static void p15NoSpans() {
        due("none", titles(3).end(0, 0), 0);
    }

    static void p15TitlesCountOnce() {
        due("ten spans", tenSpans().end(0, 0), 1);
    }

    static void p15AnySpanOfATitle() {
        LicenceRows2 x = titles(2);
        due("behind", x.cover(0, 300, 400), 1);
        due("before", x.cover(0, 0, 50), 2);
        due("before", x.cover(1, 0, 50), 1);
        due("behind", x.cover(1, 300, 400), 2);
        due("both", x.end(0, 100), 2);
    }

    static void p15TitlesOfAnotherPackage() {
        LicenceRows2 x = packs(2);
        due("title", x.title(1, 10), 0);
        due("cover", x.cover(0, 0, LAST), 1);
        due("none here", x.end(0, 0), 0);
    }

    static void p15TitlesNotActive() {
        LicenceRows2 x = spanned();
        due("turned", x.provider(0, 10, 10), 1);
        due("counted, too", x.end(0, 150), 1);
    }

    static void p15AllTitles() {
        LicenceRows2 x = titles(200);
        for (int i = 0; i < 200; i++) {
            due("cover " + i, x.cover(i, 0, 101), 1);
        }
        due("all", x.end(0, 100), 200);
    }

    // Promise 16: about

    static void p16Title() {
        LicenceRows2 x = titles(1);
        due("-1", x.about(-1, 0), NONE);
        due("0", x.about(0, 0), 0);
        due("1", x.about(1, 0), NONE);
        due("MIN", x.about(MIN, 0), NONE);
        due("MAX", x.about(MAX, 0), NONE);
    }

    static void p16WhatTooSmall() {
        LicenceRows2 x = titles(1);
        due("-1", x.about(0, -1), NONE);
        due("MIN", x.about(0, MIN), NONE);
    }

    static void p16WhatTooLarge() {
        LicenceRows2 x = titles(1);
        due("8", x.about(0, 8), NONE);
        due("MAX", x.about(0, MAX), NONE);
    }

    static void p16ANewTitle() {
        LicenceRows2 x = packs(20);
        due("title", x.title(19, 55), 0);
        int[] want = {19, 55, 1, 0, 0, 0, -1, -1};
        for (int what = 0; what < 8; what++) {
            due("what " + what, x.about(0, what), want[what]);
        }
    }

    static void p16ANameThatLooksLikeARefusal() {
        LicenceRows2 x = packs(1);
        due("title", x.title(0, NONE), 0);
        due("name", x.about(0, 1), NONE);
        due("package", x.about(0, 0), 0);
    }

    static void p16NoDayCovered() {
        LicenceRows2 x = titles(1);
        due("first", x.about(0, 6), -1);
        due("last", x.about(0, 7), -1);
    }

    static void p16OneDayCovered() {
        LicenceRows2 x = titles(1);
        due("cover", x.cover(0, 0, 0), 1);
        due("first", x.about(0, 6), 0);
        due("last", x.about(0, 7), 0);
    }

    static void p16FirstAndLastDayThereAre() {
        LicenceRows2 x = titles(1);
        due("the last", x.cover(0, LAST, LAST), 1);
        due("the first", x.cover(0, 0, 0), 2);
        due("first", x.about(0, 6), 0);
        due("last", x.about(0, 7), LAST);
    }

    static void p16SpansThatCameUpwards() {
        LicenceRows2 x = titles(1);
        for (int i = 0; i < 10; i++) {
            due("cover", x.cover(0, 100 + 10 * i, 105 + 10 * i), i + 1);
            due("first", x.about(0, 6), 100);
            due("last", x.about(0, 7), 105 + 10 * i);
        }
    }

    static void p16SpansThatCameDownwards() {
        LicenceRows2 x = titles(1);
        for (int i = 0; i < 10; i++) {
            due("cover", x.cover(0, 200 - 10 * i, 205 - 10 * i), i + 1);
            due("first", x.about(0, 6), 200 - 10 * i);
            due("last", x.about(0, 7), 205);
        }
    }

    static void p16UsagesOfAllMonths() {
        LicenceRows2 x = open();
        due("month 0", x.access(3, 0, 0, 0), 0);
        due("month 6666", x.access(3, 0, 0, LAST), 0);
        due("in all", x.about(0, 5), 2);
    }

    /** Three titles, of which the second has a usage in month 0. */
    private static LicenceRows2 readInTheMiddle() {
        LicenceRows2 x = titles(3);
        due("cover", x.cover(1, 0, 0), 1);
        due("rule", x.rule(0, 3, 1, 0), 0);
        due("in", x.in(0, 3), 1);
        due("access", x.access(3, 1, 0, 0), 0);
        return x;
    }

    static void p16UsagesOfAnotherTitle() {
        LicenceRows2 x = readInTheMiddle();
        due("below", x.about(0, 5), 0);
        due("the title", x.about(1, 5), 1);
        due("above", x.about(2, 5), 0);
    }

    // Promise 17: gap

    static void p17Title() {
        LicenceRows2 x = tenSpans();
        due("-1", x.gap(-1, 0, 0), NONE);
        due("0", x.gap(0, 0, 0), 51);
        due("1", x.gap(1, 0, 0), NONE);
        due("MIN", x.gap(MIN, 0, 0), NONE);
        due("MAX", x.gap(MAX, 0, 0), NONE);
    }

    static void p17NoSpans() {
        LicenceRows2 x = titles(1);
        due("side 0", x.gap(0, 0, 0), NONE);
        due("side 1", x.gap(0, 0, 1), NONE);
        due("-1", x.gap(0, -1, 0), NONE);
    }

    static void p17OneSpan() {
        LicenceRows2 x = spanned();
        due("side 0", x.gap(0, 0, 0), NONE);
        due("side 1", x.gap(0, 0, 1), NONE);
    }

    static void p17TwoSpans() {
        LicenceRows2 x = spanned();
        due("cover", x.cover(0, 300, 400), 2);
        due("first", x.gap(0, 0, 0), 201);
        due("last", x.gap(0, 0, 1), 299);
        due("no second", x.gap(0, 1, 0), NONE);
    }

    static void p17GapOfOneDay() {
        LicenceRows2 x = spanned();
        due("cover", x.cover(0, 202, 400), 2);
        due("first", x.gap(0, 0, 0), 201);
        due("last", x.gap(0, 0, 1), 201);
    }

    static void p17TheWidestGap() {
        LicenceRows2 x = titles(1);
        due("the last", x.cover(0, LAST, LAST), 1);
        due("the first", x.cover(0, 0, 0), 2);
        due("first", x.gap(0, 0, 0), 1);
        due("last", x.gap(0, 0, 1), LAST - 1);
    }

    static void p17IndexTooSmall() {
        LicenceRows2 x = tenSpans();
        due("-1", x.gap(0, -1, 0), NONE);
        due("MIN", x.gap(0, MIN, 0), NONE);
        due("-1, side 1", x.gap(0, -1, 1), NONE);
    }

    static void p17IndexTooLarge() {
        LicenceRows2 x = tenSpans();
        due("9", x.gap(0, 9, 0), NONE);
        due("9, side 1", x.gap(0, 9, 1), NONE);
        due("10", x.gap(0, 10, 0), NONE);
        due("MAX", x.gap(0, MAX, 1), NONE);
    }

    static void p17TheLastOfNine() {
        LicenceRows2 x = tenSpans();
        due("first", x.gap(0, 8, 0), 851);
        due("last", x.gap(0, 8, 1), 899);
    }

    static void p17AnotherSide() {
        LicenceRows2 x = tenSpans();
        due("-1", x.gap(0, 0, -1), NONE);
        due("2", x.gap(0, 0, 2), NONE);
        due("MIN", x.gap(0, 0, MIN), NONE);
        due("MAX", x.gap(0, 0, MAX), NONE);
    }

    static void p17SpansThatCameOutOfOrder() {
        LicenceRows2 x = titles(1);
        due("third", x.cover(0, 500, 600), 1);
        due("first", x.cover(0, 100, 200), 2);
        due("second", x.cover(0, 300, 400), 3);
        due("gap 0", x.gap(0, 0, 0), 201);
        due("gap 0", x.gap(0, 0, 1), 299);
        due("gap 1", x.gap(0, 1, 0), 401);
        due("gap 1", x.gap(0, 1, 1), 499);
    }

    // Promise 18: usage

    static void p18Title() {
        LicenceRows2 x = titles(1);
        due("-1", x.usage(-1, 0), NONE);
        due("0", x.usage(0, 0), 0);
        due("1", x.usage(1, 0), NONE);
        due("MIN", x.usage(MIN, 0), NONE);
        due("MAX", x.usage(MAX, 0), NONE);
    }

    static void p18MonthTooSmall() {
        LicenceRows2 x = titles(1);
        due("-1", x.usage(0, -1), RANGE);
        due("MIN", x.usage(0, MIN), RANGE);
    }

    static void p18MonthTooLarge() {
        LicenceRows2 x = titles(1);
        due("6667", x.usage(0, 6667), RANGE);
        due("MAX", x.usage(0, MAX), RANGE);
    }

    static void p18FirstAndLastMonth() {
        LicenceRows2 x = open();
        due("0", x.usage(0, 0), 0);
        due("6666", x.usage(0, 6666), 0);
        due("on 200000", x.access(3, 0, 0, LAST), 0);
        due("on 0", x.access(3, 0, 0, 0), 0);
        due("on 0", x.access(3, 0, 0, 0), 0);
        due("0", x.usage(0, 0), 2);
        due("6666", x.usage(0, 6666), 1);
    }

    static void p18NoneBeforeRange() {
        due("both", titles(1).usage(1, 6667), NONE);
    }

    static void p18MonthsAreCut() {
        LicenceRows2 x = open();
        due("on 29", x.access(3, 0, 0, 29), 0);
        due("on 30", x.access(3, 0, 0, 30), 0);
        due("on 59", x.access(3, 0, 0, 59), 0);
        due("month 0", x.usage(0, 0), 1);
        due("month 1", x.usage(0, 1), 2);
        due("month 2", x.usage(0, 2), 0);
    }

    static void p18FirstDayOfTheLastMonth() {
        LicenceRows2 x = open();
        due("on 199979", x.access(3, 0, 0, 199979), 0);
        due("on 199980", x.access(3, 0, 0, 199980), 0);
        due("on 200000", x.access(3, 0, 0, LAST), 0);
        due("month 6665", x.usage(0, 6665), 1);
        due("month 6666", x.usage(0, 6666), 2);
    }

    static void p18TheMonthOnWhichItWasAsked() {
        LicenceRows2 x = open();
        due("for 0, on 300", x.access(3, 0, 0, 300), 0);
        due("month 0", x.usage(0, 0), 0);
        due("month 10", x.usage(0, 10), 1);
    }

    static void p18OfAnotherTitle() {
        LicenceRows2 x = readInTheMiddle();
        due("below", x.usage(0, 0), 0);
        due("the title", x.usage(1, 0), 1);
        due("above", x.usage(2, 0), 0);
    }

    static void p18UsagesOfAllReaders() {
        LicenceRows2 x = open();
        due("in", x.in(0, 4), 1);
        due("reader 3", x.access(3, 0, 0, 0), 0);
        due("reader 4", x.access(4, 0, 0, 0), 0);
        due("both", x.usage(0, 0), 2);
    }

    // Promise 19: told

    private static LicenceRows2 toldRows(int count) {
        LicenceRows2 x = packs(1);
        for (int i = 0; i < count; i++) {
            due("row " + i, x.provider(0, 1000 + i, 0), 0);
        }
        return x;
    }

    static void p19Nothing() {
        LicenceRows2 x = new LicenceRows2();
        due("what 0", x.told(0, 0), NONE);
        due("what 1", x.told(0, 1), NONE);
    }

    static void p19RowTooSmall() {
        LicenceRows2 x = toldRows(2);
        due("-1", x.told(-1, 0), NONE);
        due("MIN", x.told(MIN, 0), NONE);
    }

    static void p19RowBehindTheLast() {
        LicenceRows2 x = toldRows(2);
        due("1", x.told(1, 0), 2);
        due("2", x.told(2, 0), NONE);
        due("2, what 1", x.told(2, 1), NONE);
        due("MAX", x.told(MAX, 0), NONE);
    }

    static void p19AnotherWhat() {
        LicenceRows2 x = toldRows(1);
        due("-1", x.told(0, -1), NONE);
        due("2", x.told(0, 2), NONE);
        due("MIN", x.told(0, MIN), NONE);
        due("MAX", x.told(0, MAX), NONE);
    }

    static void p19HundredRows() {
        LicenceRows2 x = toldRows(100);
        due("first", x.told(0, 1), 1000);
        due("last", x.told(99, 1), 1099);
        due("what 0", x.told(99, 0), 2);
        due("none behind", x.told(100, 0), NONE);
    }

    static void p19MoreNamesAreLost() {
        LicenceRows2 x = toldRows(101);
        due("first", x.told(0, 1), 1000);
        due("last", x.told(99, 1), 1099);
        due("lost", x.told(100, 0), NONE);
        due("lost", x.told(100, 1), NONE);
    }

    static void p19MoreRulesAreLost() {
        LicenceRows2 x = open();
        due("on", x.fails(0, true), 1);
        for (int i = 0; i < 101; i++) {
            due("refused " + i, x.access(3, 0, 0, 0), 5);
        }
        due("last", x.told(99, 0), 1);
        due("lost", x.told(100, 0), NONE);
        due("failed still", x.failed(), 0);
    }

    static void p19ARuleLostHasFailed() {
        LicenceRows2 x = toldRows(100);
        due("title", x.title(0, 10), 0);
        due("cover", x.cover(0, 0, 0), 1);
        due("rule", x.rule(0, 3, 1, 0), 0);
        due("on", x.fails(0, true), 1);
        due("refused", x.access(3, 0, 0, 0), 5);
        due("failed", x.failed(), 0);
        due("lost", x.told(100, 0), NONE);
        due("last", x.told(99, 0), 2);
    }

    static void p19BothSortsInTheOrderTheyCame() {
        LicenceRows2 x = failedOnce();
        due("no title", x.provider(0, 77, 0), 0);
        due("refused", x.access(3, 0, 0, 0), 5);
        int[][] want = {{1, 0}, {2, 77}, {1, 0}};
        for (int i = 0; i < 3; i++) {
            due("row " + i + ", what 0", x.told(i, 0), want[i][0]);
            due("row " + i + ", what 1", x.told(i, 1), want[i][1]);
        }
        due("no more", x.told(3, 0), NONE);
    }

    static void p19ANameThatLooksLikeARefusal() {
        LicenceRows2 x = packs(1);
        due("-1", x.provider(0, NONE, 0), 0);
        due("MIN", x.provider(0, MIN, 0), 0);
        due("row 0", x.told(0, 0), 2);
        due("row 0", x.told(0, 1), NONE);
        due("row 1", x.told(1, 1), MIN);
    }

    static void p19TheLastRule() {
        LicenceRows2 x = hundredRules();
        due("title", x.title(0, 10), 0);
        due("cover", x.cover(0, 0, 0), 1);
        due("on", x.fails(99, true), 1);
        due("refused", x.access(3, 0, 0, 0), 5);
        due("the rule", x.told(0, 1), 99);
    }

    static void p19AccessThatAskedNoRulesTellsNothing() {
        LicenceRows2 x = open();
        due("on", x.fails(0, true), 1);
        due("4", x.access(3, 0, 30, 0), 4);
        due("RANGE", x.access(3, 0, -1, 0), RANGE);
        due("NONE", x.access(100, 0, 0, 0), NONE);
        due("nothing", x.told(0, 0), NONE);
    }

    static void p19ARefusalByARuleTellsNothing() {
        LicenceRows2 x = ruleless();
        due("an empty row", x.access(3, 0, 0, 0), 5);
        due("refuses", x.rule(0, 3, 2, 0), 0);
        due("refused", x.access(3, 0, 0, 0), 5);
        due("nothing", x.told(0, 0), NONE);
    }

    // Promise 20: who

    static void p20Package() {
        LicenceRows2 x = packs(2);
        due("-1", x.who(-1, 0), NONE);
        due("1", x.who(1, 0), 0);
        due("2", x.who(2, 0), NONE);
        due("MIN", x.who(MIN, 0), NONE);
        due("MAX", x.who(MAX, 0), NONE);
    }

    static void p20WhichTooSmall() {
        LicenceRows2 x = crowded();
        due("-1", x.who(0, -1), NONE);
        due("-2", x.who(0, -2), NONE);
        due("MIN", x.who(0, MIN), NONE);
        due("MIN + 1", x.who(0, MIN + 1), NONE);
    }

    static void p20NobodyAtAll() {
        LicenceRows2 x = packs(1);
        due("in", x.who(0, 0), 0);
        due("waiting", x.who(0, 1), 0);
        due("the first in", x.who(0, 2), NONE);
        due("the first waiting", x.who(0, 3), NONE);
    }

    static void p20BehindTheLastIn() {
        LicenceRows2 x = crowded();
        due("in 0", x.who(0, 2), 7);
        due("in 1", x.who(0, 4), NONE);
    }

    static void p20BehindTheLastWaiting() {
        LicenceRows2 x = crowded();
        due("waiting 0", x.who(0, 3), 8);
        due("waiting 1", x.who(0, 5), 9);
        due("waiting 2", x.who(0, 7), NONE);
    }

    static void p20WhichTooLarge() {
        LicenceRows2 x = crowded();
        due("MAX", x.who(0, MAX), NONE);
        due("MAX - 1", x.who(0, MAX - 1), NONE);
    }

    static void p20HundredIn() {
        LicenceRows2 x = packs(1);
        for (int r = 0; r < 100; r++) {
            due("in " + r, x.in(0, 99 - r), 1);
        }
        due("in", x.who(0, 0), 100);
        due("the first", x.who(0, 2), 99);
        due("the last", x.who(0, 2 + 2 * 99), 0);
        due("none behind", x.who(0, 2 + 2 * 100), NONE);
        due("none waits", x.who(0, 3), NONE);
    }

    static void p20HundredWaiting() {
        LicenceRows2 x = packs(1);
        due("room", x.room(0, 0), 0);
        for (int r = 0; r < 100; r++) {
            due("waits " + r, x.in(0, 99 - r), 0);
        }
        due("waiting", x.who(0, 1), 100);
        due("the first", x.who(0, 3), 99);
        due("the last", x.who(0, 3 + 2 * 99), 0);
        due("none behind", x.who(0, 3 + 2 * 100), NONE);
        due("none is in", x.who(0, 2), NONE);
    }

    static void p20GoneLeaveNoHole() {
        LicenceRows2 x = packs(1);
        for (int r = 1; r <= 3; r++) {
            due("in " + r, x.in(0, r), 1);
        }
        due("out", x.out(0, 2), NOBODY);
        due("in", x.who(0, 0), 2);
        due("first", x.who(0, 2), 1);
        due("second", x.who(0, 4), 3);
        due("no third", x.who(0, 6), NONE);
    }

    static void p20WhoWaitedCameLast() {
        LicenceRows2 x = crowded();
        due("room", x.room(0, 2), 1);
        due("out", x.out(0, 7), 9);
        due("first", x.who(0, 2), 8);
        due("second", x.who(0, 4), 9);
        due("none waits", x.who(0, 1), 0);
    }

    private static void run(Method m) throws IllegalAccessException {
        test = m.getName();
        try {
            m.invoke(null);
        } catch (InvocationTargetException e) {
            wrong++;
            System.out.println(test + " threw " + e.getCause());
        }
    }

    public static void main(String[] args) throws IllegalAccessException {
        Method[] tests = Arrays.stream(BoundaryTests.class.getDeclaredMethods())
            .filter(m -> m.getName().matches("p\\d\\d.*") && m.getParameterCount() == 0)
            .sorted((a, b) -> a.getName().compareTo(b.getName())).toArray(Method[]::new);
        for (Method m : tests) {
            run(m);
        }
        System.out.println(tests.length + " boundary cases, " + wrong + " answers not as due");
        if (wrong != 0 || tests.length == 0) {
            System.exit(1);
        }
    }
}
