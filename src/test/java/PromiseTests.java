/** For each promise of the document: ordinary inputs, the edges that it names, and wrong inputs. */
public final class PromiseTests {
    private static final int NONE = LicenceRows2.NONE;
    private static final int RANGE = LicenceRows2.RANGE;
    private static final int STATE = LicenceRows2.STATE;
    private static final int FULL = LicenceRows2.FULL;
    private static final int NOBODY = -10;
    private static final int MIN = Integer.MIN_VALUE;
    private static final int MAX = Integer.MAX_VALUE;

    private static int checks = 0;
    private static int wrong = 0;

    private static void due(String call, int got, int want) {
        checks++;
        if (got != want) {
            wrong++;
            System.out.println(call + " answered " + got + ", due is " + want);
        }
    }

    /** A package that keeps, with a title named 5 covered on all days, reader 3 in, and no rules. */
    private static LicenceRows2 library() {
        LicenceRows2 x = new LicenceRows2();
        due("library: pack", x.pack(true), 0);
        due("library: title", x.title(0, 5), 0);
        due("library: cover", x.cover(0, 0, 200000), 1);
        due("library: in", x.in(0, 3), 1);
        return x;
    }

    private static LicenceRows2 openLibrary() {
        LicenceRows2 x = library();
        due("library: rule", x.rule(0, 3, 1, 0), 0);
        return x;
    }

    private static void promise1NewObject() {
        LicenceRows2 x = new LicenceRows2();
        due("1: about(0, 0)", x.about(0, 0), NONE);
        due("1: title(0, 1)", x.title(0, 1), NONE);
        due("1: fails(0, true)", x.fails(0, true), NONE);
        due("1: who(0, 0)", x.who(0, 0), NONE);
        due("1: failed()", x.failed(), -1);
        due("1: told(0, 0)", x.told(0, 0), NONE);
        due("1: pack", x.pack(false), 0);
        due("1: who(0, 0)", x.who(0, 0), 0);
        due("1: who(0, 1)", x.who(0, 1), 0);
        due("1: who(0, 2)", x.who(0, 2), NONE);
        LicenceRows2 y = new LicenceRows2();
        due("1: objects are apart", y.title(0, 1), NONE);
    }

    private static void promise2Pack() {
        LicenceRows2 x = new LicenceRows2();
        for (int i = 0; i < 20; i++) {
            due("2: pack " + i, x.pack(i % 2 == 0), i);
        }
        due("2: pack 20", x.pack(true), FULL);
        due("2: pack 20", x.pack(false), FULL);
        due("2: title(19, 1)", x.title(19, 1), 0);
        due("2: title(20, 1)", x.title(20, 1), NONE);
    }

    private static void promise3Title() {
        LicenceRows2 x = new LicenceRows2();
        x.pack(true);
        x.pack(true);
        due("3: title(-1, 1)", x.title(-1, 1), NONE);
        due("3: title(2, 1)", x.title(2, 1), NONE);
        due("3: title(MIN, 1)", x.title(MIN, 1), NONE);
        due("3: title(MAX, 1)", x.title(MAX, 1), NONE);
        due("3: title(0, 7)", x.title(0, 7), 0);
        due("3: the name again", x.title(0, 7), STATE);
        due("3: the name elsewhere", x.title(1, 7), 1);
        due("3: not active", x.provider(0, 7, 7), 1);
        due("3: a title not active has its name", x.title(0, 7), STATE);
        due("3: renamed", x.provider(0, 7, 8), 1);
        due("3: the old name is free", x.title(0, 7), 2);
        due("3: the new one is not", x.title(0, 8), STATE);
        due("3: MIN as name", x.title(0, MIN), 3);
        due("3: MAX as name", x.title(0, MAX), 4);
        due("3: MIN again", x.title(0, MIN), STATE);
        for (int i = 5; i < 200; i++) {
            due("3: title " + i, x.title(i % 2, 1000 + i), i);
        }
        due("3: title 200", x.title(0, 5000), FULL);
        due("3: STATE before FULL", x.title(0, 7), STATE);
        due("3: NONE before FULL", x.title(2, 5000), NONE);
        due("3: the last title", x.about(199, 1), 1199);
        due("3: none behind the last", x.about(200, 1), NONE);
    }

    private static void promise4Cover() {
        LicenceRows2 x = new LicenceRows2();
        x.pack(true);
        x.title(0, 1);
        x.title(0, 2);
        due("4: no title", x.cover(2, 0, 0), NONE);
        due("4: no title", x.cover(-1, 0, 0), NONE);
        due("4: NONE before RANGE", x.cover(2, -1, -1), NONE);
        due("4: below", x.cover(0, -1, 5), RANGE);
        due("4: above", x.cover(0, 5, 200001), RANGE);
        due("4: above", x.cover(0, 200001, 200001), RANGE);
        due("4: MIN", x.cover(0, MIN, MAX), RANGE);
        due("4: from behind to", x.cover(0, 6, 5), RANGE);
        due("4: one day", x.cover(0, 5, 5), 1);
        due("4: same", x.cover(0, 5, 5), STATE);
        due("4: touches above", x.cover(0, 6, 9), STATE);
        due("4: touches below", x.cover(0, 0, 4), STATE);
        due("4: round it", x.cover(0, 0, 100), STATE);
        due("4: RANGE before STATE", x.cover(0, 5, 4), RANGE);
        due("4: a day apart above", x.cover(0, 7, 9), 2);
        due("4: a day apart below", x.cover(0, 0, 3), 3);
        due("4: inside", x.cover(0, 8, 8), STATE);
        due("4: the day between", x.cover(0, 6, 6), STATE);
        due("4: last day", x.cover(0, 200000, 200000), 4);
        due("4: touches last", x.cover(0, 199990, 199999), STATE);
        for (int i = 5; i <= 10; i++) {
            due("4: span " + i, x.cover(0, i * 100, i * 100 + 50), i);
        }
        due("4: full", x.cover(0, 5000, 5000), FULL);
        due("4: STATE before FULL", x.cover(0, 500, 500), STATE);
        due("4: RANGE before FULL", x.cover(0, 5001, 5000), RANGE);
        due("4: another title", x.cover(1, 5, 5), 1);
        due("4: count", x.about(0, 3), 10);
    }

    private static void promise5Embargo() {
        LicenceRows2 x = openLibrary();
        due("5: no title", x.embargo(1, 0, 0), NONE);
        due("5: no title", x.embargo(-1, 121, 0), NONE);
        due("5: months", x.embargo(0, -1, 0), RANGE);
        due("5: months", x.embargo(0, 121, 0), RANGE);
        due("5: day", x.embargo(0, 3, -1), RANGE);
        due("5: day", x.embargo(0, 3, 200001), RANGE);
        due("5: nothing was set", x.about(0, 4), 0);
        due("5: 0 months on 0", x.embargo(0, 0, 0), 30);
        due("5: 0 months on 29", x.embargo(0, 0, 29), 30);
        due("5: 0 months on 30", x.embargo(0, 0, 30), 60);
        due("5: 1 month on 0", x.embargo(0, 1, 0), 0);
        due("5: 2 months on 0", x.embargo(0, 2, 0), 0);
        due("5: 120 months on 0", x.embargo(0, 120, 0), 0);
        due("5: 120 months on 3600", x.embargo(0, 120, 3600), 30);
        due("5: 120 months on 3599", x.embargo(0, 120, 3599), 0);
        due("5: set", x.about(0, 4), 120);
        due("5: 1 on last day", x.embargo(0, 1, 200000), 199980);
        // No day is embargoed there; the formula's day is told all the same.
        due("5: 0 on last day", x.embargo(0, 0, 200000), 200010);
        due("5: 0 embargoes months to come", x.access(3, 0, 60, 59), 4);
        due("5: 0 leaves its month free", x.access(3, 0, 59, 30), 0);
        int least = x.embargo(0, 7, 1000);
        due("5: least", least, 810);
        due("5: least is embargoed", x.access(3, 0, least, 1000), 4);
        due("5: the day below is not", x.access(3, 0, least - 1, 1000), 0);
        due("5: all are embargoed", x.access(3, 0, 0, 209), 4);
        due("5: day 0 is free", x.access(3, 0, 0, 210), 0);
    }

    private static void promise6Rule() {
        LicenceRows2 x = new LicenceRows2();
        x.pack(true);
        due("6: no package", x.rule(1, 0, 1, 0), NONE);
        due("6: no package", x.rule(-1, 9, 9, 9), NONE);
        due("6: kind", x.rule(0, -1, 1, 0), RANGE);
        due("6: kind", x.rule(0, 4, 1, 0), RANGE);
        due("6: does", x.rule(0, 1, 0, 0), RANGE);
        due("6: does", x.rule(0, 1, 3, 0), RANGE);
        due("6: class", x.rule(0, 0, 1, -1), RANGE);
        due("6: class", x.rule(0, 0, 1, 10), RANGE);
        due("6: mask", x.rule(0, 2, 1, -1), RANGE);
        due("6: mask", x.rule(0, 2, 1, 128), RANGE);
        due("6: bound", x.rule(0, 3, 1, -1), RANGE);
        due("6: bound", x.rule(0, 3, 1, 1000001), RANGE);
        due("6: class", x.rule(0, 0, 1, 9), 0);
        due("6: class", x.rule(0, 0, 2, 0), 1);
        due("6: name", x.rule(0, 1, 1, MIN), 2);
        due("6: name", x.rule(0, 1, 2, MAX), 3);
        due("6: mask", x.rule(0, 2, 1, 127), 4);
        due("6: mask", x.rule(0, 2, 1, 0), 5);
        due("6: bound", x.rule(0, 3, 1, 1000000), 6);
        due("6: bound", x.rule(0, 3, 1, 0), 7);
        for (int i = 8; i < 100; i++) {
            due("6: rule " + i, x.rule(0, 0, 1, 0), i);
        }
        due("6: full", x.rule(0, 0, 1, 0), FULL);
        due("6: RANGE before FULL", x.rule(0, 0, 1, 10), RANGE);
        due("6: NONE before FULL", x.rule(1, 0, 1, 0), NONE);
        due("6: the last rule", x.fails(99, true), 1);
        due("6: none behind the last", x.fails(100, true), NONE);
    }

    private static void rulesByClassAndName() {
        LicenceRows2 x = library();
        x.rule(0, 0, 2, 4);
        x.rule(0, 1, 1, 6);
        due("6: name below", x.access(3, 0, 0, 0), 0);
        x.reader(3, 4);
        due("6: the first that fits decides", x.access(3, 0, 0, 0), 5);
        x.reader(3, 5);
        x.provider(0, 5, 6);
        due("6: name at the bound, none fits", x.access(3, 0, 0, 0), 5);
        x.provider(0, 6, MIN);
        due("6: least name", x.access(3, 0, 0, 0), 0);
    }

    private static void rulesByWeek() {
        LicenceRows2 x = library();
        x.rule(0, 2, 1, 0b1000010);
        for (int on = 0; on < 30; on++) {
            int want = on % 7 == 1 || on % 7 == 6 ? 0 : 5;
            due("6: week on " + on, x.access(3, 0, 0, on), want);
        }
    }

    private static void rulesByUsages() {
        LicenceRows2 x = library();
        x.pack(true);
        x.title(1, 5);
        x.cover(1, 0, 100);
        x.in(1, 3);
        x.in(1, 4);
        x.rule(1, 3, 2, 2);
        x.rule(1, 3, 1, 0);
        x.rule(0, 3, 1, 0);
        due("6: other title", x.access(3, 0, 0, 31), 0);
        due("6: other month", x.access(3, 1, 0, 29), 0);
        due("6: second of the month", x.access(3, 1, 0, 30), 0);
        due("6: third of the month", x.access(3, 1, 0, 59), 5);
        due("6: other reader", x.access(4, 1, 0, 59), 0);
        due("6: next month", x.access(3, 1, 0, 60), 0);
        due("6: other package's rules", x.access(3, 0, 0, 59), 0);
        x.in(1, 0);
        due("6: first of reader 0", x.access(0, 1, 0, 0), 0);
        due("6: second of reader 0", x.access(0, 1, 0, 0), 0);
        due("6: third of reader 0", x.access(0, 1, 0, 0), 5);
    }

    private static void promise7Fails() {
        LicenceRows2 x = openLibrary();
        x.rule(0, 0, 2, 9);
        due("7: no rule", x.fails(2, true), NONE);
        due("7: no rule", x.fails(-1, true), NONE);
        due("7: no rule", x.fails(MAX, false), NONE);
        due("7: a rule that is not come to", x.fails(1, true), 1);
        due("7: access", x.access(3, 0, 0, 0), 0);
        due("7: failed", x.failed(), -1);
        due("7: the first", x.fails(0, true), 1);
        due("7: again", x.fails(0, true), 1);
        due("7: access", x.access(3, 0, 0, 0), 5);
        due("7: failed", x.failed(), 0);
        due("7: no more", x.fails(0, false), 1);
        due("7: access", x.access(3, 0, 0, 0), 0);
        LicenceRows2 y = library();
        y.rule(0, 0, 1, 9);
        y.rule(0, 3, 1, 0);
        y.fails(0, true);
        due("7: one that would not fit", y.access(3, 0, 0, 0), 5);
        y.pack(true);
        y.rule(1, 3, 1, 0);
        y.title(1, 5);
        y.cover(1, 0, 0);
        y.in(1, 3);
        due("7: of another package", y.access(3, 1, 0, 0), 0);
    }

    private static void promise8Reader() {
        LicenceRows2 x = library();
        due("8: no reader", x.reader(-1, 0), NONE);
        due("8: no reader", x.reader(100, 0), NONE);
        due("8: NONE before RANGE", x.reader(100, 10), NONE);
        due("8: class", x.reader(3, -1), RANGE);
        due("8: class", x.reader(3, 10), RANGE);
        x.rule(0, 0, 1, 0);
        due("8: 0 at first", x.access(3, 0, 0, 0), 0);
        due("8: class 9", x.reader(3, 9), 1);
        due("8: other class", x.access(3, 0, 0, 0), 5);
        due("8: refused class", x.reader(3, 10), RANGE);
        x.rule(0, 0, 1, 9);
        due("8: class 9 holds", x.access(3, 0, 0, 0), 0);
        due("8: reader 99", x.reader(99, 0), 1);
        due("8: reader 0", x.reader(0, 9), 1);
    }

    private static void promise9Room() {
        LicenceRows2 x = new LicenceRows2();
        due("9: no package", x.room(0, 1), NONE);
        x.pack(true);
        due("9: NONE before RANGE", x.room(1, -1), NONE);
        due("9: below", x.room(0, -1), RANGE);
        due("9: above", x.room(0, 101), RANGE);
        due("9: none", x.room(0, 0), 0);
        for (int r = 0; r < 100; r++) {
            due("9: waits " + r, x.in(0, 99 - r), 0);
        }
        due("9: three", x.room(0, 3), 3);
        due("9: who", x.who(0, 2), 99);
        due("9: who", x.who(0, 6), 97);
        due("9: who waits", x.who(0, 3), 96);
        due("9: same", x.room(0, 3), 0);
        due("9: less", x.room(0, 1), 0);
        due("9: nobody is sent out", x.who(0, 0), 3);
        due("9: out of a package too full", x.out(0, 99), NOBODY);
        due("9: out of a package too full", x.out(0, 98), NOBODY);
        due("9: out", x.out(0, 97), 96);
        due("9: all", x.room(0, 100), 96);
        due("9: in", x.who(0, 0), 97);
        due("9: wait", x.who(0, 1), 0);
    }

    private static void promise10In() {
        LicenceRows2 x = new LicenceRows2();
        due("10: no package", x.in(0, 0), NONE);
        x.pack(true);
        x.pack(true);
        due("10: no reader", x.in(0, -1), NONE);
        due("10: no reader", x.in(0, 100), NONE);
        for (int r = 0; r < 100; r++) {
            due("10: in " + r, x.in(0, r), 1);
        }
        due("10: in already", x.in(0, 50), STATE);
        due("10: in another, too", x.in(1, 50), 1);
        x.room(1, 1);
        due("10: waits", x.in(1, 51), 0);
        due("10: waits already", x.in(1, 51), STATE);
        x.out(1, 51);
        due("10: waits anew", x.in(1, 51), 0);
        x.out(1, 50);
        due("10: is in by that", x.in(1, 51), STATE);
    }

    private static void promise11Out() {
        LicenceRows2 x = new LicenceRows2();
        due("11: no package", x.out(0, 0), NONE);
        x.pack(true);
        due("11: no reader", x.out(0, -1), NONE);
        due("11: no reader", x.out(0, 100), NONE);
        due("11: not in", x.out(0, 0), STATE);
        x.room(0, 2);
        x.in(0, 1);
        x.in(0, 2);
        x.in(0, 3);
        x.in(0, 4);
        x.in(0, 0);
        due("11: waits no more", x.out(0, 3), NOBODY);
        due("11: gone", x.out(0, 3), STATE);
        due("11: out", x.out(0, 1), 4);
        due("11: reader 0 is in", x.out(0, 2), 0);
        due("11: order", x.who(0, 2), 4);
        due("11: order", x.who(0, 4), 0);
        due("11: nobody waits", x.out(0, 4), NOBODY);
        due("11: out already", x.out(0, 4), STATE);
    }

    private static void promise12Access() {
        LicenceRows2 x = openLibrary();
        due("12: no title", x.access(3, 1, 0, 0), NONE);
        due("12: no title", x.access(3, -1, 0, 0), NONE);
        due("12: no reader", x.access(-1, 0, 0, 0), NONE);
        due("12: no reader", x.access(100, 0, -1, 0), NONE);
        due("12: day", x.access(3, 0, -1, 0), RANGE);
        due("12: day", x.access(3, 0, 200001, 0), RANGE);
        due("12: on", x.access(3, 0, 0, -1), RANGE);
        due("12: on", x.access(3, 0, 0, 200001), RANGE);
        due("12: wrong calls are no usages", x.about(0, 5), 0);
        due("12: 0", x.access(3, 0, 200000, 200000), 0);
        due("12: 6", x.access(4, 0, 0, 0), 6);
        x.room(0, 1);
        x.in(0, 4);
        due("12: who waits isn't in", x.access(4, 0, 0, 0), 6);
        x.fails(0, true);
        due("12: 5 before 6", x.access(4, 0, 0, 0), 5);
        due("12: 4 before 5", x.access(4, 0, 30, 0), 4);
        x.title(0, 6);
        x.cover(1, 10, 20);
        x.cover(1, 40, 50);
        due("12: 3 before 4", x.access(4, 1, 30, 0), 3);
        due("12: 3 below", x.access(4, 1, 9, 0), 3);
        due("12: 3 above", x.access(4, 1, 21, 60), 3);
        due("12: 3 on day 0", x.access(4, 1, 0, 0), 3);
        due("12: from is covered", x.access(4, 1, 10, 60), 5);
        due("12: to is covered", x.access(4, 1, 50, 60), 5);
        x.end(0, 30);
        due("12: 2 before 3", x.access(4, 1, 30, 30), 2);
        due("12: below is kept", x.access(4, 1, 29, 30), 3);
        due("12: not ended yet", x.access(4, 1, 30, 29), 3);
        x.provider(0, 6, 6);
        due("12: 1 before 2", x.access(4, 1, 30, 30), 1);
        due("12: one usage", x.about(0, 5), 1);
        due("12: none", x.about(1, 5), 0);
    }

    private static void endedPackagesKeepOrNot() {
        LicenceRows2 x = openLibrary();
        x.pack(false);
        x.title(1, 5);
        x.cover(1, 0, 200000);
        x.rule(1, 3, 1, 0);
        x.in(1, 3);
        x.end(0, 100);
        x.end(1, 100);
        due("12: kept", x.access(3, 0, 99, 100), 0);
        due("12: the day itself is not kept", x.access(3, 0, 100, 100), 2);
        due("12: nothing is kept", x.access(3, 1, 99, 100), 2);
        due("12: before the end", x.access(3, 1, 100, 99), 0);
        due("12: day 0", x.access(3, 1, 0, 200000), 2);
        LicenceRows2 y = openLibrary();
        y.end(0, 0);
        due("12: ended on day 0", y.access(3, 0, 0, 0), 2);
    }

    private static void promise13Failed() {
        LicenceRows2 x = openLibrary();
        x.rule(0, 0, 1, 0);
        due("13: at first", x.failed(), -1);
        x.fails(0, true);
        due("13: nothing asked", x.failed(), -1);
        x.access(3, 0, 0, 0);
        due("13: rule 0", x.failed(), 0);
        x.access(3, 0, 30, 0);
        due("13: an access that did not ask the rules", x.failed(), 0);
        x.access(100, 0, 0, 0);
        due("13: a wrong access", x.failed(), 0);
        x.fails(0, false);
        due("13: the latest access stands", x.failed(), 0);
        x.access(4, 0, 0, 0);
        due("13: asked, none failed", x.failed(), -1);
    }

    private static void promise14Provider() {
        LicenceRows2 x = new LicenceRows2();
        due("14: no package", x.provider(0, 1, 1), NONE);
        due("14: not told", x.told(0, 0), NONE);
        x.pack(true);
        x.pack(true);
        x.title(0, 1);
        x.title(0, 2);
        x.title(1, 3);
        due("14: no such title", x.provider(0, 3, 1), 0);
        due("14: no such title", x.provider(0, 4, 4), 0);
        due("14: told", x.told(0, 1), 3);
        due("14: told", x.told(1, 1), 4);
        due("14: another has it", x.provider(0, 1, 2), STATE);
        due("14: unchanged", x.about(0, 1), 1);
        due("14: turned", x.provider(0, 1, 1), 1);
        due("14: not active", x.about(0, 2), 0);
        due("14: others stay", x.about(1, 2), 1);
        due("14: renamed while not active", x.provider(0, 1, 3), 1);
        due("14: name", x.about(0, 1), 3);
        due("14: still not active", x.about(0, 2), 0);
        due("14: turned back", x.provider(0, 3, 3), 1);
        due("14: active", x.about(0, 2), 1);
        due("14: of the other package", x.about(2, 2), 1);
        due("14: the old name", x.provider(0, 1, 1), 0);
        x.provider(0, 2, 2);
        due("14: a title not active has its name", x.provider(0, 3, 2), STATE);
        due("14: two rows told and one more", x.told(2, 1), 1);
        due("14: no more", x.told(3, 0), NONE);
    }

    private static void promise15End() {
        LicenceRows2 x = new LicenceRows2();
        due("15: no package", x.end(0, 0), NONE);
        x.pack(true);
        x.pack(true);
        due("15: NONE before RANGE", x.end(2, -1), NONE);
        due("15: day", x.end(0, -1), RANGE);
        due("15: day", x.end(0, 200001), RANGE);
        for (int i = 0; i < 5; i++) {
            x.title(0, i);
        }
        x.title(1, 0);
        x.cover(0, 0, 101);
        x.cover(1, 0, 100);
        x.cover(2, 200, 300);
        x.cover(2, 0, 50);
        x.cover(2, 400, 400);
        x.cover(3, 0, 500);
        x.cover(5, 0, 500);
        x.provider(0, 3, 3);
        due("15: behind that day", x.end(0, 100), 3);
        due("15: ended", x.end(0, 100), STATE);
        due("15: ended", x.end(0, 0), STATE);
        due("15: RANGE before STATE", x.end(0, 200001), RANGE);
        due("15: last day", x.end(1, 200000), 0);
        due("15: ended", x.end(1, 200000), STATE);
        x.pack(true);
        due("15: first day, no titles", x.end(2, 0), 0);
    }

    private static void promise16About() {
        LicenceRows2 x = new LicenceRows2();
        x.pack(true);
        x.pack(true);
        x.title(1, -1);
        due("16: package", x.about(0, 0), 1);
        due("16: name", x.about(0, 1), -1);
        due("16: active", x.about(0, 2), 1);
        due("16: spans", x.about(0, 3), 0);
        due("16: embargo", x.about(0, 4), 0);
        due("16: usages", x.about(0, 5), 0);
        due("16: first", x.about(0, 6), -1);
        due("16: last", x.about(0, 7), -1);
        due("16: what 8", x.about(0, 8), NONE);
        due("16: what -1", x.about(0, -1), NONE);
        due("16: no title", x.about(1, 0), NONE);
        due("16: no title", x.about(-1, 0), NONE);
        x.cover(0, 50, 60);
        x.cover(0, 10, 20);
        x.cover(0, 30, 40);
        x.embargo(0, 2, 0);
        x.rule(1, 1, 1, 0);
        x.in(1, 99);
        due("16: usage", x.access(99, 0, 10, 60), 0);
        due("16: usage", x.access(99, 0, 10, 90), 0);
        x.provider(1, -1, -1);
        due("16: active", x.about(0, 2), 0);
        due("16: spans", x.about(0, 3), 3);
        due("16: embargo", x.about(0, 4), 2);
        due("16: usages", x.about(0, 5), 2);
        due("16: first", x.about(0, 6), 10);
        due("16: last", x.about(0, 7), 60);
    }

    private static void promise17Gap() {
        LicenceRows2 x = new LicenceRows2();
        x.pack(true);
        x.title(0, 1);
        due("17: no spans", x.gap(0, 0, 0), NONE);
        x.cover(0, 100, 200);
        due("17: one span", x.gap(0, 0, 0), NONE);
        x.cover(0, 0, 49);
        x.cover(0, 202, 300);
        due("17: first of 0", x.gap(0, 0, 0), 50);
        due("17: last of 0", x.gap(0, 0, 1), 99);
        due("17: first of 1", x.gap(0, 1, 0), 201);
        due("17: last of 1", x.gap(0, 1, 1), 201);
        due("17: no gap", x.gap(0, 2, 0), NONE);
        due("17: no gap", x.gap(0, -1, 0), NONE);
        due("17: no gap", x.gap(0, MAX, 1), NONE);
        due("17: no gap", x.gap(0, MIN, 1), NONE);
        due("17: side", x.gap(0, 0, 2), NONE);
        due("17: side", x.gap(0, 0, -1), NONE);
        due("17: no title", x.gap(1, 0, 0), NONE);
        due("17: no title", x.gap(-1, 0, 0), NONE);
        for (int i = 0; i < 7; i++) {
            x.cover(0, 1000 - 10 * i, 1005 - 10 * i);
        }
        due("17: first of the last", x.gap(0, 8, 0), 996);
        due("17: last of the last", x.gap(0, 8, 1), 999);
        due("17: none of ten", x.gap(0, 9, 0), NONE);
    }

    private static void promise18Usage() {
        LicenceRows2 x = openLibrary();
        x.title(0, 6);
        x.cover(1, 0, 10);
        x.in(0, 4);
        x.access(3, 0, 0, 29);
        x.access(4, 0, 0, 0);
        x.access(3, 0, 0, 30);
        x.access(3, 1, 0, 0);
        x.access(5, 0, 0, 0);
        x.access(3, 0, 200000, 200000);
        due("18: month 0", x.usage(0, 0), 2);
        due("18: month 1", x.usage(0, 1), 1);
        due("18: month 2", x.usage(0, 2), 0);
        due("18: other title", x.usage(1, 0), 1);
        due("18: last month", x.usage(0, 6666), 1);
        due("18: behind", x.usage(0, 6667), RANGE);
        due("18: below", x.usage(0, -1), RANGE);
        due("18: no title", x.usage(2, 0), NONE);
        due("18: NONE before RANGE", x.usage(-1, 6667), NONE);
        LicenceRows2 y = openLibrary();
        for (int i = 0; i < 500; i++) {
            y.access(3, 0, 0, 0);
        }
        due("18: as many as calls allow", y.usage(0, 0), 500);
        due("18: and in all", y.about(0, 5), 500);
    }

    private static void promise19Told() {
        LicenceRows2 x = openLibrary();
        x.rule(0, 3, 1, 0);
        due("19: nothing", x.told(0, 0), NONE);
        x.fails(0, true);
        x.access(3, 0, 0, 0);
        x.provider(0, -1, 5);
        due("19: rule", x.told(0, 0), 1);
        due("19: rule", x.told(0, 1), 0);
        due("19: name", x.told(1, 0), 2);
        due("19: name", x.told(1, 1), -1);
        due("19: what", x.told(0, 2), NONE);
        due("19: what", x.told(0, -1), NONE);
        due("19: no row", x.told(2, 0), NONE);
        due("19: no row", x.told(-1, 0), NONE);
        for (int i = 2; i < 105; i++) {
            due("19: no title", x.provider(0, 1000 + i, 0), 0);
        }
        due("19: last row", x.told(99, 1), 1099);
        due("19: more are lost", x.told(100, 0), NONE);
        due("19: the first stays", x.told(0, 0), 1);
        due("19: refused still", x.access(3, 0, 0, 0), 5);
        due("19: failed still", x.failed(), 0);
    }

    private static void promise20Who() {
        LicenceRows2 x = new LicenceRows2();
        x.pack(true);
        x.pack(true);
        x.room(0, 2);
        int[] readers = {9, 0, 99, 4, 50};
        for (int r : readers) {
            x.in(0, r);
        }
        due("20: in", x.who(0, 0), 2);
        due("20: wait", x.who(0, 1), 3);
        due("20: in 0", x.who(0, 2), 9);
        due("20: in 1", x.who(0, 4), 0);
        due("20: in 2", x.who(0, 6), NONE);
        due("20: wait 0", x.who(0, 3), 99);
        due("20: wait 1", x.who(0, 5), 4);
        due("20: wait 2", x.who(0, 7), 50);
        due("20: wait 3", x.who(0, 9), NONE);
        due("20: other package", x.who(1, 0), 0);
        due("20: other package", x.who(1, 2), NONE);
        due("20: no package", x.who(2, 0), NONE);
        due("20: no package", x.who(-1, 0), NONE);
        due("20: below", x.who(0, -1), NONE);
        due("20: below", x.who(0, -2), NONE);
        due("20: MIN", x.who(0, MIN), NONE);
        due("20: MAX", x.who(0, MAX), NONE);
        x.out(0, 9);
        due("20: came after", x.who(0, 2), 0);
        due("20: came last", x.who(0, 4), 99);
        x.out(0, 4);
        due("20: closed up", x.who(0, 3), 50);
        due("20: one waits", x.who(0, 1), 1);
    }

    public static void main(String[] args) {
        promise1NewObject();
        promise2Pack();
        promise3Title();
        promise4Cover();
        promise5Embargo();
        promise6Rule();
        rulesByClassAndName();
        rulesByWeek();
        rulesByUsages();
        promise7Fails();
        promise8Reader();
        promise9Room();
        promise10In();
        promise11Out();
        promise12Access();
        endedPackagesKeepOrNot();
        promise13Failed();
        promise14Provider();
        promise15End();
        promise16About();
        promise17Gap();
        promise18Usage();
        promise19Told();
        promise20Who();
        System.out.println(checks + " answers looked at, " + wrong + " not as due");
        if (wrong != 0) {
            System.exit(1);
        }
    }
}
