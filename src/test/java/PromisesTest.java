// One test for each promise of the document: ordinary inputs, the edges that it names, wrong inputs.
public final class PromisesTest {
    private static final int NONE = -1;
    private static final int BAD = -2;
    private static final int NOT = -3;
    private static final int FULL = -4;
    private static final int LEAST = Integer.MIN_VALUE;
    private static final int MOST = Integer.MAX_VALUE;

    private static int wrong = 0;
    private static int promise = 0;

    private static void due(String call, long got, long want) {
        if (got != want) {
            wrong++;
            System.out.println("promise " + promise + ": " + call + " answered " + got + ", due is " + want);
        }
    }

    /** An object with one profile (alloy 0, ratio 10, recipe 0, 1000 grams) and laws that cut nothing off. */
    private static BilletBars plain() {
        BilletBars x = new BilletBars();
        x.profile(0, 10, 0, 1000);
        for (int what = 0; what <= 5; what++) {
            x.law(what, 0);
        }
        return x;
    }

    /** plain() with an order for pieces of 100 and die 0 that may press. */
    private static BilletBars pressing() {
        BilletBars x = plain();
        x.die(0, 50);
        x.order(0, 100, 500);
        x.warm(0);
        x.pass(3);
        return x;
    }

    /** Cools a die, if it is warm, and warms it until it may press. */
    private static void rewarm(BilletBars x, int die) {
        x.cool(die);
        x.warm(die);
        x.pass(3);
    }

    private static void newObject() {
        BilletBars x = new BilletBars();
        for (int what = 0; what <= 7; what++) {
            due("count(" + what + ")", x.count(what), 0);
        }
        for (int what = 0; what <= 6; what++) {
            due("account(" + what + ")", x.account(what), 0);
        }
        due("die", x.die(0, 1), BAD);
        due("about", x.about(0, 0), BAD);
        due("bar", x.bar(0, 0), BAD);
        due("planned", x.planned(0), BAD);
        due("late", x.late(), 0);
        due("batches", x.batches(), 0);
        due("held", x.held(), 0);
        for (int s = 0; s <= 3; s++) {
            due("lose", x.lose(s), -11);
        }
        due("stock", x.stock(200), 1);
        due("NONE", BilletBars.NONE, NONE);
        due("BAD", BilletBars.BAD, BAD);
        due("NOT", BilletBars.NOT, NOT);
        due("FULL", BilletBars.FULL, FULL);
    }

    private static void profile() {
        BilletBars x = new BilletBars();
        int[][] bad = {{-1, 5, 0, 100}, {3, 5, 0, 100}, {0, 4, 0, 100}, {0, 81, 0, 100}, {0, 5, -1, 100},
            {0, 5, 4, 100}, {0, 5, 0, 99}, {0, 5, 0, 10000}, {LEAST, 5, 0, 100}, {0, MOST, 0, 100}};
        for (int[] b : bad) {
            due("profile", x.profile(b[0], b[1], b[2], b[3]), BAD);
        }
        due("count(0)", x.count(0), 0);
        due("profile", x.profile(0, 5, 0, 100), 0);
        for (int i = 1; i < 8; i++) {
            due("profile", x.profile(2, 80, 3, 9999), i);
        }
        due("profile", x.profile(0, 5, 0, 100), FULL);
        due("profile", x.profile(3, 5, 0, 100), BAD);
        due("count(0)", x.count(0), 8);
        due("die", x.die(7, 50), 0);
        due("die", x.die(8, 50), BAD);
    }

    private static void die() {
        BilletBars x = plain();
        due("die", x.die(0, 0), BAD);
        due("die", x.die(0, 51), BAD);
        due("die", x.die(1, 1), BAD);
        due("die", x.die(-1, 1), BAD);
        due("die", x.die(0, 1), 0);
        due("about", x.about(0, 3), NONE);
        due("about", x.about(0, 2), 0);
        for (int i = 1; i < 12; i++) {
            due("die", x.die(0, 50), i);
        }
        due("die", x.die(0, 50), FULL);
        due("die", x.die(0, 51), BAD);
        due("count(1)", x.count(1), 12);
    }

    private static void warm() {
        BilletBars x = plain();
        due("warm", x.warm(0), BAD);
        x.die(0, 1);
        x.pass(5);
        due("warm", x.warm(0), 1);
        due("about", x.about(0, 3), 0);
        x.pass(4);
        due("warm", x.warm(0), NOT);
        due("about", x.about(0, 3), 4);
        due("warm", x.warm(-1), BAD);
        due("warm", x.warm(1), BAD);
        x.cool(0);
        due("warm", x.warm(0), 1);
        due("about", x.about(0, 3), 0);
    }

    private static void cool() {
        BilletBars x = plain();
        due("cool", x.cool(0), BAD);
        x.die(0, 1);
        due("cool", x.cool(0), NOT);
        x.warm(0);
        due("cool", x.cool(0), 0);
        due("cool", x.cool(0), NOT);
        x.pass(9);
        x.warm(0);
        x.pass(20);
        due("cool", x.cool(0), 20);
        due("about", x.about(0, 3), NONE);
        due("cool", x.cool(-1), BAD);
        due("cool", x.cool(1), BAD);
    }

    private static void nitride() {
        BilletBars x = pressing();
        x.press(0, 200);
        x.press(0, 200);
        due("nitride", x.nitride(0), NOT);
        due("about", x.about(0, 2), 2);
        x.cool(0);
        due("nitride", x.nitride(0), 2);
        due("about", x.about(0, 2), 0);
        due("about", x.about(0, 5), 2);
        due("nitride", x.nitride(0), 0);
        due("nitride", x.nitride(1), BAD);
        due("nitride", x.nitride(-1), BAD);
        rewarm(x, 0);
        x.press(0, 200);
        due("about", x.about(0, 2), 1);
        due("about", x.about(0, 5), 3);
    }

    private static void about() {
        BilletBars x = new BilletBars();
        x.profile(0, 10, 0, 1000);
        x.profile(1, 10, 0, 1000);
        x.die(1, 2);
        due("about", x.about(0, 0), 1);
        due("about", x.about(0, 1), 2);
        due("about", x.about(0, 2), 0);
        due("about", x.about(0, 3), NONE);
        due("about", x.about(0, 4), 0);
        due("about", x.about(0, 5), 0);
        due("about", x.about(0, 6), BAD);
        due("about", x.about(0, -1), BAD);
        due("about", x.about(1, 0), BAD);
        due("about", x.about(-1, 0), BAD);
        x.pass(7);
        x.warm(0);
        for (int warm = 0; warm <= 14; warm++) {
            due("about " + warm, x.about(0, 3), warm);
            due("about " + warm, x.about(0, 4), warm >= 3 && warm <= 12 ? 1 : 0);
            x.pass(1);
        }
        rewarm(x, 0);
        x.press(0, 200);
        due("about", x.about(0, 4), 1);
        x.press(0, 200);
        due("about", x.about(0, 2), 2);
        due("about", x.about(0, 3), 5);
        due("about", x.about(0, 4), 0);
        due("about", x.about(0, 5), 2);
    }

    private static void ready() {
        BilletBars x = plain();
        x.profile(0, 10, 0, 1000);
        due("ready", x.ready(0), NONE);
        x.die(1, 50);
        x.die(0, 50);
        x.die(0, 50);
        x.die(0, 50);
        for (int die = 0; die < 4; die++) {
            x.warm(die);
        }
        x.pass(2);
        due("ready", x.ready(0), NONE);
        x.pass(1);
        due("ready", x.ready(0), 1);
        due("ready", x.ready(1), 0);
        x.press(1, 200);
        due("ready", x.ready(0), 2);
        x.press(2, 200);
        due("ready", x.ready(0), 3);
        x.press(3, 200);
        due("ready", x.ready(0), 1);
        x.cool(1);
        due("ready", x.ready(0), 2);
        x.nitride(1);
        x.warm(1);
        x.pass(3);
        due("ready", x.ready(0), 1);
        x.pass(4);
        due("ready", x.ready(0), 1);
        due("ready", x.ready(1), NONE);
        due("ready", x.ready(2), BAD);
        due("ready", x.ready(-1), BAD);
    }

    private static void pass() {
        BilletBars x = new BilletBars();
        due("pass", x.pass(0), BAD);
        due("pass", x.pass(101), BAD);
        due("pass", x.pass(-1), BAD);
        due("pass", x.pass(MOST), BAD);
        due("pass", x.pass(1), 1);
        due("pass", x.pass(100), 101);
        due("count(2)", x.count(2), 101);
    }

    private static void law() {
        BilletBars x = new BilletBars();
        int[] first = {20, 500, 300, 400, 5, 5};
        int[] most = {100, 5000, 5000, 5000, 20, 20};
        for (int what = 0; what <= 5; what++) {
            due("law " + what, x.law(what, -1), BAD);
            due("law " + what, x.law(what, most[what] + 1), BAD);
            due("law " + what, x.law(what, most[what]), first[what]);
            due("law " + what, x.law(what, 0), most[what]);
            due("law " + what, x.law(what, 1), 0);
        }
        due("law", x.law(-1, 0), BAD);
        due("law", x.law(6, 0), BAD);
        due("law", x.law(LEAST, MOST), BAD);
    }

    private static void press() {
        BilletBars x = new BilletBars();
        x.profile(0, 7, 0, 1000);
        x.die(0, 3);
        x.order(0, 1000, 500);
        x.warm(0);
        due("press", x.press(1, 300), BAD);
        due("press", x.press(-1, 300), BAD);
        due("press", x.press(0, 199), BAD);
        due("press", x.press(0, 1201), BAD);
        due("press", x.press(0, 200), NOT);
        x.pass(3);
        due("press", x.press(0, 199), BAD);
        x.law(0, 19);
        x.law(5, 13);
        // (523 - 19) * 7 = 3528; * 1013 / 1000 = 3573.8
        due("press", x.press(0, 523), 2000);
        due("bar", x.bar(0, 2), 3573);
        due("bar", x.bar(0, 4), 3573 - 800 - 2000);
        due("wanted", x.wanted(0, 0), 498);
        due("count(2)", x.count(2), 4);
        due("about", x.about(0, 2), 1);
        // 800 of head and tail, 400 of weld: 2373 are usable
        due("press", x.press(0, 523), 2000);
        due("bar", x.bar(1, 5), 400);
        due("bar", x.bar(1, 4), 373);
        x.pass(1);
        due("press", x.press(0, 523), 2000);
        due("bar", x.bar(2, 5), 0);
        due("press", x.press(0, 523), NOT);
        due("count(2)", x.count(2), 7);
        due("count(3)", x.count(3), 3);
        weldOfOtherDies();
        cutsNoLongerThanTheBar();
        fullOfBars();
    }

    private static void weldOfOtherDies() {
        BilletBars x = pressing();
        x.law(3, 50);
        x.die(0, 50);
        x.warm(1);
        x.pass(3);
        x.press(0, 200);
        x.press(1, 200);
        due("bar", x.bar(1, 5), 0);
        x.press(0, 200);
        due("bar", x.bar(2, 5), 0);
        x.press(0, 200);
        due("bar", x.bar(3, 5), 50);
        x.press(1, 200);
        due("bar", x.bar(4, 5), 0);
    }

    private static void cutsNoLongerThanTheBar() {
        BilletBars x = pressing();
        x.law(0, 100);
        x.law(1, 600);
        x.law(2, 300);
        x.law(3, 5000);
        due("press", x.press(0, 200), 100);
        due("press", x.press(0, 200), 0);
        due("bar", x.bar(1, 5), 100);
        x.law(2, 5000);
        due("press", x.press(0, 200), 0);
        due("bar", x.bar(2, 5), 0);
        x.law(1, 5000);
        due("press", x.press(0, 200), 0);
        due("bar", x.bar(3, 4), 0);
        due("account(0)", x.account(0), 600 + 600 + 600 + 1000);
        due("account(1)", x.account(1), 300 + 300 + 400);
        due("account(2)", x.account(2), 100);
        due("account(5)", x.account(5), 4000);
    }

    /** As many profiles, orders, dies, bars and stock lengths as there may be; 2000 of goods in each bar. */
    private static BilletBars full() {
        BilletBars x = plain();
        x.order(0, 2000, 500);
        for (int profile = 1; profile < 8; profile++) {
            x.profile(0, 10, 3, 1000);
        }
        x.order(7, 2000, 3);
        x.order(7, 2000, 2);
        x.order(7, 2000, 1);
        for (int die = 0; die < 12; die++) {
            x.die(0, 50);
        }
        for (int n = 0; n < 6; n++) {
            x.stock(1200 - 200 * n);
        }
        for (int bar = 0; bar < 200; bar++) {
            if (bar % 10 == 0) {
                rewarm(x, bar / 20);
            }
            due("press " + bar, x.press(bar / 20, 200), 2000);
        }
        return x;
    }

    private static void fullOfBars() {
        BilletBars x = full();
        due("count(3)", x.count(3), 200);
        due("bar", x.bar(199, 0), 9);
        rewarm(x, 0);
        int tick = x.count(2);
        due("press", x.press(0, 200), FULL);
        due("press", x.press(11, 200), NOT);
        due("press", x.press(0, 199), BAD);
        due("count(2)", x.count(2), tick);
        due("about", x.about(0, 5), 20);
        due("wanted", x.wanted(0, 0), 300);
    }

    private static void fullObject() {
        BilletBars x = full();
        due("ready", x.ready(0), NONE);
        rewarm(x, 11);
        due("ready", x.ready(0), 11);
        due("ready", x.ready(7), NONE);
        due("best", x.best(11, true), 200);
        due("account(3)", x.account(3), 400000);
        due("suspect", x.suspect(199), 0);
        x.sample(199, false);
        due("suspect", x.suspect(180), 1);
        due("suspect", x.suspect(179), 0);
        due("held", x.held(), 40000);
        x.sheet(0, 1, 200);
        x.put(0, 1, 199, 1003);
        due("drift", x.drift(0, 199), 3);
        due("count(7)", x.count(7), 200);
        due("batches", x.batches(), 4);
        x.room(1000000);
        due("age", x.age(), 200);
        due("age", x.age(), NOT);
        due("bar", x.bar(199, 6), 0);
        long h = chained(8, 12, x.count(2), 200, 0, 1, 0);
        for (int die = 0; die < 12; die++) {
            h = 31 * (31 * (31 * h + (die < 10 ? 20 : 0)) + x.about(die, 3)) + x.about(die, 4);
        }
        for (int bar = 0; bar < 200; bar++) {
            h = 31 * (31 * (31 * (31 * h + 2000)));
        }
        int[] rest = {0, 0, 0, 400000, 0, 400000, 40000, 300, 3, 2, 1};
        for (int part : rest) {
            h = 31 * h + part;
        }
        due("digest", x.digest(), h);
    }

    private static void bar() {
        BilletBars x = new BilletBars();
        x.profile(0, 10, 2, 1000);
        x.die(0, 50);
        x.die(0, 50);
        x.order(0, 900, 500);
        x.warm(1);
        x.pass(3);
        x.press(1, 420);
        x.press(1, 520);
        int[] first = {1, 420, 4020, 2700, 520, 0, NONE};
        int[] second = {1, 520, 5025, 3600, 225, 400, NONE};
        for (int what = 0; what <= 6; what++) {
            due("bar 0, " + what, x.bar(0, what), first[what]);
            due("bar 1, " + what, x.bar(1, what), second[what]);
        }
        x.room(3000);
        x.age();
        due("bar", x.bar(0, 6), 0);
        due("bar", x.bar(1, 6), NONE);
        x.age();
        due("bar", x.bar(1, 6), 1);
        due("bar", x.bar(0, 7), BAD);
        due("bar", x.bar(0, -1), BAD);
        due("bar", x.bar(2, 0), BAD);
        due("bar", x.bar(-1, 0), BAD);
        due("bar", x.bar(MOST, 0), BAD);
    }

    private static void order() {
        BilletBars x = plain();
        x.profile(0, 10, 0, 1000);
        due("order", x.order(0, 99, 1), BAD);
        due("order", x.order(0, 9001, 1), BAD);
        due("order", x.order(0, 100, -1), BAD);
        due("order", x.order(0, 100, 501), BAD);
        due("order", x.order(2, 100, 1), BAD);
        due("order", x.order(-1, 100, 1), BAD);
        due("order", x.order(0, 100, 0), 0);
        due("order", x.order(1, 100, 1), 0);
        due("order", x.order(0, 9000, 500), 1);
        due("order", x.order(0, 100, 7), 2);
        due("order", x.order(0, 100, 1), FULL);
        due("order", x.order(0, 99, 1), BAD);
        due("wanted", x.wanted(0, 1), 500);
        due("wanted", x.wanted(0, 2), 7);
        due("order", x.order(1, 100, 2), 1);
    }

    private static void wanted() {
        BilletBars x = pressing();
        x.order(0, 700, 1);
        due("wanted", x.wanted(0, 0), 500);
        due("wanted", x.wanted(0, 1), 1);
        due("wanted", x.wanted(0, 2), BAD);
        due("wanted", x.wanted(0, -1), BAD);
        due("wanted", x.wanted(1, 0), BAD);
        due("wanted", x.wanted(-1, 0), BAD);
        // 2000: one of 700, 13 of 100
        due("press", x.press(0, 200), 2000);
        due("wanted", x.wanted(0, 0), 487);
        due("wanted", x.wanted(0, 1), 0);
        due("press", x.press(0, 200), 2000);
        due("wanted", x.wanted(0, 0), 467);
    }

    private static void dueParts(BilletBars x, int usable, int n0, int n1, int n2, int goods) {
        int[] want = {n0, n1, n2, goods};
        for (int what = 0; what <= 3; what++) {
            due("pattern 0, " + usable + ", " + what, x.pattern(0, usable, what), want[what]);
        }
    }

    private static void pattern() {
        BilletBars x = plain();
        dueParts(x, 200000, 0, 0, 0, 0);
        x.law(4, 5);
        x.order(0, 100, 500);
        dueParts(x, 99, 0, 0, 0, 0);
        dueParts(x, 100, 1, 0, 0, 100);
        dueParts(x, 204, 1, 0, 0, 100);
        dueParts(x, 205, 2, 0, 0, 200);
        dueParts(x, 200000, 60, 0, 0, 6000);
        x.law(4, 0);
        x.order(0, 300, 4);
        // of like goods the fewest pieces
        dueParts(x, 300, 0, 1, 0, 300);
        dueParts(x, 800, 2, 2, 0, 800);
        dueParts(x, 1600, 4, 4, 0, 1600);
        x.order(0, 200, 60);
        // 300 + 300 rather than 200 * 3; 300 + 200 rather than others of 500
        dueParts(x, 600, 0, 2, 0, 600);
        dueParts(x, 500, 0, 1, 1, 500);
        // 1, 1, 0 and 0, 0, 2 are like in goods and pieces: the greatest n 0
        dueParts(x, 400, 1, 1, 0, 400);
        dueParts(x, 200000, 60, 4, 60, 6000 + 1200 + 12000);
        due("pattern", x.pattern(0, -1, 0), BAD);
        due("pattern", x.pattern(0, 200001, 0), BAD);
        due("pattern", x.pattern(0, 100, 4), BAD);
        due("pattern", x.pattern(0, 100, -1), BAD);
        due("pattern", x.pattern(1, 100, 0), BAD);
        due("pattern", x.pattern(-1, 100, 0), BAD);
        due("wanted", x.wanted(0, 1), 4);
        patternsOfLikeOrders();
        patternsWithKerfs();
    }

    private static void patternsWithKerfs() {
        BilletBars x = plain();
        x.law(4, 20);
        x.order(0, 1000, 3);
        x.order(0, 700, 2);
        x.order(0, 150, 60);
        // the last piece needs no kerf behind it: 2000 and 150, with two kerfs between
        dueParts(x, 2190, 2, 0, 1, 2150);
        dueParts(x, 2189, 2, 0, 0, 2000);
        dueParts(x, 1720, 1, 1, 0, 1700);
        dueParts(x, 1719, 1, 0, 4, 1600);
        dueParts(x, 1890, 1, 1, 1, 1850);
        dueParts(x, 1889, 1, 0, 5, 1750);
        dueParts(x, 0, 0, 0, 0, 0);
        dueParts(x, 149, 0, 0, 0, 0);
        dueParts(x, 150, 0, 0, 1, 150);
        BilletBars y = plain();
        y.order(0, 100, 60);
        dueParts(y, 0, 0, 0, 0, 0);
    }

    private static void patternsOfLikeOrders() {
        BilletBars x = plain();
        x.order(0, 500, 2);
        x.order(0, 500, 3);
        x.order(0, 500, 9);
        dueParts(x, 1000, 2, 0, 0, 1000);
        dueParts(x, 2000, 2, 2, 0, 2000);
        dueParts(x, 4499, 2, 3, 3, 4000);
        BilletBars y = plain();
        y.order(0, 9000, 0);
        y.order(0, 300, 60);
        y.order(0, 200, 60);
        // the least waste beats the longest pieces
        dueParts(y, 700, 0, 1, 2, 700);
        dueParts(y, 8999, 0, 29, 1, 8900);
        // a greater n 0 with fewer goods is no pattern
        BilletBars z = plain();
        z.order(0, 600, 60);
        z.order(0, 500, 60);
        dueParts(z, 1000, 0, 2, 0, 1000);
    }

    private static void account() {
        BilletBars x = new BilletBars();
        x.profile(0, 10, 0, 1000);
        x.profile(0, 20, 0, 1000);
        x.die(0, 50);
        x.die(1, 50);
        x.order(0, 900, 500);
        x.warm(0);
        x.warm(1);
        x.pass(3);
        x.press(0, 420);
        x.press(0, 520);
        x.press(1, 220);
        // 4020: 500, 300, -, 2700, 520; 5025: 500, 300, 400, 3600, 225; 4020: 500, 300, -, 0, 3220
        int[] want = {1500, 900, 400, 6300, 3965, 13065, 1160};
        for (int what = 0; what <= 6; what++) {
            due("account " + what, x.account(what), want[what]);
        }
        due("account", x.account(7), BAD);
        due("account", x.account(-1), BAD);
    }

    private static void stock() {
        BilletBars x = new BilletBars();
        due("stock", x.stock(199), BAD);
        due("stock", x.stock(1201), BAD);
        due("stock", x.stock(200), 1);
        due("stock", x.stock(1200), 2);
        due("stock", x.stock(200), 3);
        due("stock", x.stock(300), 4);
        due("stock", x.stock(300), 5);
        due("stock", x.stock(300), 6);
        due("stock", x.stock(300), FULL);
        due("stock", x.stock(1201), BAD);
    }

    private static void best() {
        BilletBars x = plain();
        due("best", x.best(0, false), BAD);
        x.die(0, 50);
        due("best", x.best(0, false), NONE);
        x.stock(400);
        due("best", x.best(0, false), NONE);
        x.order(0, 2000, 500);
        due("best", x.best(0, false), 400);
        x.stock(200);
        // 4000 by 400 and 2000 by 200 are alike: the shortest
        due("best", x.best(0, false), 200);
        x.stock(600);
        x.stock(200);
        due("best", x.best(0, false), 200);
        x.law(3, 1000);
        // with a weld: 3000, 1000, 5000 usable; 2000 by 400, none, 4000 by 600
        due("best", x.best(0, true), 600);
        due("best", x.best(0, false), 200);
        x.law(1, 5000);
        due("best", x.best(0, true), NONE);
        due("best", x.best(1, false), BAD);
        due("best", x.best(-1, false), BAD);
        due("count(3)", x.count(3), 0);
        due("wanted", x.wanted(0, 0), 500);
        bestComparesExactly();
    }

    private static void bestComparesExactly() {
        // 5995 by 600 is 9.99166.., 5985 by 599 is 9.99165..: whole quotients would be alike
        int[][] stocks = {{600, 599}, {599, 600}};
        for (int[] lengths : stocks) {
            BilletBars x = plain();
            x.die(0, 50);
            x.order(0, 5995, 1);
            x.order(0, 5985, 1);
            x.stock(lengths[0]);
            x.stock(lengths[1]);
            due("best", x.best(0, false), 600);
        }
    }

    private static void job() {
        BilletBars x = plain();
        due("job", x.job(1, 1, 0), BAD);
        due("job", x.job(-1, 1, 0), BAD);
        due("job", x.job(0, 0, 0), BAD);
        due("job", x.job(0, 51, 0), BAD);
        due("job", x.job(0, 1, -1), BAD);
        due("job", x.job(0, 1, 1001), BAD);
        due("job", x.job(0, 1, 0), 0);
        for (int i = 1; i < 7; i++) {
            due("job", x.job(0, 50, 1000), i);
        }
        due("job", x.job(0, 1, 0), FULL);
        due("job", x.job(0, 0, 0), BAD);
        due("count(4)", x.count(4), 7);
        due("late", x.late(), 1);
    }

    private static void change() {
        BilletBars x = plain();
        x.profile(1, 10, 0, 1000);
        due("change", x.change(-1), BAD);
        due("change", x.change(21), BAD);
        x.job(0, 5, 5);
        x.job(1, 5, 5);
        due("late", x.late(), 7);
        due("change", x.change(20), 2);
        due("late", x.late(), 25);
        due("change", x.change(0), 20);
        due("late", x.late(), 5);
        due("change", x.change(1), 0);
        due("late", x.late(), 6);
    }

    private static void late() {
        BilletBars x = plain();
        x.profile(0, 20, 1, 1000);
        x.profile(2, 20, 1, 1000);
        due("late", x.late(), 0);
        x.job(0, 5, 5);
        due("late", x.late(), 0);
        x.job(1, 5, 9);
        // unlike profiles of one alloy: no change between them
        due("late", x.late(), 1);
        x.job(2, 1, 20);
        due("late", x.late(), 1);
        x.job(2, 1, 1);
        // 3 at 1, 0 ends at 8, 1 at 13, 2 at 16: 3 + 4; 0, 1, 3 late by 12 at 13: 13
        due("late", x.late(), 7);
    }

    private static void planned() {
        BilletBars x = plain();
        x.profile(1, 10, 0, 1000);
        due("planned", x.planned(0), BAD);
        x.job(0, 5, 1000);
        x.job(1, 5, 1000);
        x.job(0, 5, 1000);
        // none is late: the least end has one change, of those 0, 2, 1 is the first
        due("planned", x.planned(0), 0);
        due("planned", x.planned(1), 2);
        due("planned", x.planned(2), 1);
        due("planned", x.planned(3), BAD);
        due("planned", x.planned(-1), BAD);
        x.change(0);
        due("planned", x.planned(1), 1);
        due("planned", x.planned(2), 2);
        x.job(0, 1, 1);
        due("planned", x.planned(0), 3);
        due("planned", x.planned(1), 0);
        due("planned", x.planned(3), 2);
    }

    private static void room() {
        BilletBars x = new BilletBars();
        due("room", x.room(999), BAD);
        due("room", x.room(1000001), BAD);
        due("room", x.room(1000), 100000);
        due("room", x.room(1000000), 1000);
        due("room", x.room(5000), 1000000);
    }

    /** Bars of 2000, 3000, 4000, 2000, 2000, 3000 millimetres, by dies of recipes 0, 1, 0, 0, 1, 0. */
    private static BilletBars sixBars() {
        BilletBars x = plain();
        x.profile(0, 10, 1, 1000);
        x.order(0, 1000, 500);
        x.order(1, 1000, 500);
        x.die(0, 50);
        x.die(1, 50);
        x.warm(0);
        x.warm(1);
        x.pass(3);
        x.press(0, 200);
        x.press(1, 300);
        x.press(0, 400);
        x.press(0, 200);
        x.press(1, 200);
        x.press(0, 300);
        return x;
    }

    private static void dueBatches(BilletBars x, int... want) {
        for (int i = 0; i < want.length; i++) {
            due("bar " + i + ", 6", x.bar(i, 6), want[i]);
        }
    }

    private static void age() {
        due("age", new BilletBars().age(), NOT);
        BilletBars x = sixBars();
        x.room(6000);
        due("age", x.age(), 2);
        dueBatches(x, 0, NONE, 0, NONE, NONE, NONE);
        x.room(4999);
        due("age", x.age(), 1);
        dueBatches(x, 0, 1, 0, NONE, NONE, NONE);
        due("age", x.age(), 1);
        due("age", x.age(), 1);
        due("age", x.age(), 1);
        dueBatches(x, 0, 1, 0, 2, 3, 4);
        due("age", x.age(), NOT);
        due("count(5)", x.count(5), 5);
        BilletBars y = sixBars();
        y.room(1000);
        due("age", y.age(), 1);
        due("age", y.age(), 1);
        due("age", y.age(), 1);
        dueBatches(y, 0, 1, 2, NONE, NONE, NONE);
        // none of a shorter one behind one that does not fit
        BilletBars z = sixBars();
        z.room(5000);
        due("age", z.age(), 1);
        dueBatches(z, 0, NONE, NONE, NONE, NONE, NONE);
    }

    private static void batches() {
        BilletBars x = sixBars();
        due("batches", x.batches(), 2);
        x.room(6000);
        due("batches", x.batches(), 3);
        x.room(5000);
        due("batches", x.batches(), 4);
        x.room(4999);
        due("batches", x.batches(), 6);
        x.room(1000);
        due("batches", x.batches(), 6);
        due("count(5)", x.count(5), 0);
        due("count(7)", x.count(7), 6);
        x.room(6000);
        x.age();
        due("batches", x.batches(), 2);
        x.age();
        x.age();
        due("batches", x.batches(), 0);
    }

    private static void sample() {
        BilletBars x = sixBars();
        due("sample", x.sample(6, true), BAD);
        due("sample", x.sample(-1, false), BAD);
        due("sample", x.sample(0, false), 1);
        due("suspect", x.suspect(0), 1);
        due("sample", x.sample(0, true), 1);
        due("suspect", x.suspect(0), 0);
        due("suspect", x.suspect(2), 0);
        due("sample", x.sample(0, false), 1);
        due("suspect", x.suspect(2), 1);
    }

    private static void suspect() {
        BilletBars x = sixBars();
        due("suspect", x.suspect(0), 0);
        x.sample(2, true);
        x.sample(3, false);
        int[] want = {0, 0, 0, 1, 0, 1};
        for (int i = 0; i < 6; i++) {
            due("suspect " + i, x.suspect(i), want[i]);
        }
        x.sample(0, false);
        due("suspect", x.suspect(0), 1);
        due("suspect", x.suspect(2), 0);
        // a good one of another die stands in no one's way
        x.sample(4, true);
        due("suspect", x.suspect(5), 1);
        due("suspect", x.suspect(1), 0);
        x.sample(4, false);
        due("suspect", x.suspect(1), 1);
        due("suspect", x.suspect(6), BAD);
        due("suspect", x.suspect(-1), BAD);
    }

    private static void held() {
        BilletBars x = sixBars();
        due("held", x.held(), 0);
        x.sample(3, false);
        due("held", x.held(), 11000);
        x.sample(2, true);
        due("held", x.held(), 5000);
        x.sample(1, false);
        due("held", x.held(), 10000);
        x.sample(3, true);
        due("held", x.held(), 5000);
    }

    private static void drift() {
        BilletBars x = sixBars();
        due("drift", x.drift(0, 5), -100001);
        due("count(6)", x.count(6), 0);
        x.sheet(0, 2, 4);
        due("drift", x.drift(0, 5), -100001);
        x.put(0, 2, 0, 1);
        x.put(0, 2, 1, 20000);
        x.put(0, 2, 2, 20001);
        x.put(0, 2, 3, -1);
        due("drift", x.drift(0, 0), -999);
        due("drift", x.drift(1, 1), 19000);
        due("drift", x.drift(2, 5), -100001);
        // (-999 + 19000) by 2
        due("drift", x.drift(0, 5), 9000);
        x.put(0, 2, 1, 998);
        // (-999 - 2) by 2 is -500.5
        due("drift", x.drift(0, 5), -501);
        due("drift", x.drift(1, 5), -2);
        due("drift", x.drift(0, 6), -100000);
        due("drift", x.drift(-1, 0), -100000);
        due("drift", x.drift(2, 1), -100000);
        x.sheet(0, 0, 200);
        x.put(0, 0, 5, 127);
        due("drift", x.drift(5, 5), -873);
        // what an earlier sheet had is no weight
        x.sheet(0, 0, 5);
        due("drift", x.drift(5, 5), -100001);
        x.lose(0);
        due("drift", x.drift(5, 5), -100001);
        due("drift", new BilletBars().drift(0, 0), -100000);
        driftOfUnlikeProfiles();
    }

    private static void driftOfUnlikeProfiles() {
        BilletBars x = plain();
        x.profile(0, 10, 0, 300);
        x.die(1, 50);
        x.die(0, 50);
        x.warm(0);
        x.warm(1);
        x.pass(3);
        x.press(0, 200);
        x.press(1, 200);
        x.sheet(0, 1, 2);
        x.put(0, 1, 0, 305);
        x.put(0, 1, 1, 1011);
        due("drift", x.drift(0, 0), 5);
        due("drift", x.drift(1, 1), 11);
        due("drift", x.drift(0, 1), 8);
        x.sheet(1, 1, 2);
        x.lose(0);
        due("drift", x.drift(0, 1), -100001);
    }

    private static void sheet() {
        BilletBars x = new BilletBars();
        due("sheet", x.sheet(-1, 0, 1), BAD);
        due("sheet", x.sheet(4, 0, -1), BAD);
        due("sheet", x.sheet(0, -1, 1), BAD);
        due("sheet", x.sheet(0, 3, -1), BAD);
        due("sheet", x.sheet(0, 0, 201), BAD);
        due("count(6)", x.count(6), 0);
        due("sheet", x.sheet(0, 0, -1), -15);
        due("count(6)", x.count(6), 5);
        due("lose", x.lose(0), -11);
        due("sheet", x.sheet(0, 0, 0), 0);
        due("put", x.put(0, 0, 0, 1), -12);
        due("sheet", x.sheet(3, 2, 200), 200);
        due("get", x.get(3, 2, 199), 0);
        x.put(3, 2, 199, 8);
        x.put(3, 2, 0, 9);
        due("sheet", x.sheet(3, 2, LEAST), -15);
        due("get", x.get(3, 2, 199), 8);
        due("sheet", x.sheet(3, 1, 1), 1);
        due("get", x.get(3, 1, 0), 0);
        due("get", x.get(3, 1, 1), LEAST);
        due("sheet", x.sheet(3, 1, 200), 200);
        due("get", x.get(3, 1, 199), 0);
    }

    private static void lose() {
        BilletBars x = new BilletBars();
        due("lose", x.lose(-1), BAD);
        due("lose", x.lose(4), BAD);
        due("count(6)", x.count(6), 0);
        due("lose", x.lose(3), -11);
        due("count(6)", x.count(6), 1);
        x.sheet(3, 0, 7);
        x.sheet(2, 0, 0);
        due("lose", x.lose(3), 7);
        due("lose", x.lose(3), -11);
        due("lose", x.lose(2), 0);
        due("lose", x.lose(2), -11);
    }

    private static void put() {
        BilletBars x = new BilletBars();
        x.sheet(0, 0, 2);
        x.sheet(1, 1, 2);
        x.sheet(2, 2, 2);
        due("put", x.put(-1, 0, 0, 1), BAD);
        due("put", x.put(4, 0, 0, 1), BAD);
        due("put", x.put(0, -1, 0, 1), BAD);
        due("put", x.put(3, 3, 9, 1), BAD);
        due("count(6)", x.count(6), 0);
        due("put", x.put(3, 1, 9, 1), -11);
        due("count(6)", x.count(6), 1);
        due("put", x.put(0, 1, 9, 1), -13);
        due("count(6)", x.count(6), 3);
        due("put", x.put(0, 0, 2, 1), -12);
        due("count(6)", x.count(6), 2);
        due("put", x.put(0, 0, -1, 1), -12);
        due("put", x.put(0, 0, 1, 255), 1);
        due("get", x.get(0, 0, 1), -1);
        due("put", x.put(0, 0, 1, 0x1280), 1);
        due("get", x.get(0, 0, 1), -128);
        due("put", x.put(0, 0, 1, 127), 1);
        due("get", x.get(0, 0, 1), 127);
        due("put", x.put(1, 1, 1, 0x12348000), 1);
        due("get", x.get(1, 1, 1), -32768);
        due("put", x.put(1, 1, 1, 32767), 1);
        due("get", x.get(1, 1, 1), 32767);
        due("put", x.put(2, 2, 1, MOST), 1);
        due("get", x.get(2, 2, 1), MOST);
        due("get", x.get(2, 2, 0), 0);
    }

    private static void get() {
        BilletBars x = new BilletBars();
        x.sheet(1, 1, 2);
        x.put(1, 1, 0, -7);
        due("get", x.get(1, 1, 0), -7);
        due("get", x.get(-1, 0, 0), LEAST);
        due("get", x.get(4, 0, 0), LEAST);
        due("get", x.get(1, 3, 0), LEAST);
        due("get", x.get(1, -1, 0), LEAST);
        due("count(6)", x.count(6), 0);
        due("get", x.get(1, 1, 2), LEAST);
        due("count(6)", x.count(6), 2);
        due("get", x.get(1, 1, -1), LEAST);
        due("get", x.get(0, 1, 2), LEAST);
        due("count(6)", x.count(6), 1);
        due("get", x.get(1, 0, 2), LEAST);
        due("count(6)", x.count(6), 3);
        due("get", x.get(1, 1, 0), -7);
        due("count(6)", x.count(6), 3);
    }

    /** A sheet of five ints: 10, 11, 12, 13, 14. */
    private static void fill(BilletBars x, int s) {
        x.sheet(s, 2, 5);
        for (int i = 0; i < 5; i++) {
            x.put(s, 2, i, 10 + i);
        }
    }

    private static void dueItems(BilletBars x, int s, int... want) {
        for (int i = 0; i < want.length; i++) {
            due("get " + s + ", 2, " + i, x.get(s, 2, i), want[i]);
        }
    }

    private static void copy() {
        BilletBars x = new BilletBars();
        fill(x, 0);
        x.sheet(1, 2, 3);
        x.sheet(2, 0, 5);
        due("copy", x.copy(-1, 0, 0, 0, 1), BAD);
        due("copy", x.copy(0, 0, 4, 0, 1), BAD);
        due("count(6)", x.count(6), 0);
        due("copy", x.copy(0, -1, 3, 0, 1), -11);
        due("copy", x.copy(3, 0, 0, 0, 1), -11);
        due("copy", x.copy(0, 0, 2, -1, 1), -14);
        due("count(6)", x.count(6), 4);
        int[][] noItem = {{-1, 0, 1}, {0, -1, 1}, {0, 0, -1}, {0, 0, 4}, {3, 0, 3}, {0, 2, 2}, {6, 0, 0},
            {0, 4, 0}, {MOST, 0, MOST}, {0, MOST, MOST}, {LEAST, LEAST, LEAST}};
        for (int[] n : noItem) {
            due("copy", x.copy(0, n[0], 1, n[1], n[2]), -12);
        }
        dueItems(x, 1, 0, 0, 0);
        due("copy", x.copy(0, 5, 1, 3, 0), 1);
        due("copy", x.copy(0, 3, 1, 1, 2), 1);
        dueItems(x, 1, 0, 13, 14);
        dueItems(x, 0, 10, 11, 12, 13, 14);
        due("copy", x.copy(0, 0, 0, 1, 4), 1);
        dueItems(x, 0, 10, 10, 11, 12, 13);
        fill(x, 0);
        due("copy", x.copy(0, 1, 0, 0, 4), 1);
        dueItems(x, 0, 11, 12, 13, 14, 14);
        due("copy", x.copy(1, 0, 0, 2, 3), 1);
        dueItems(x, 0, 11, 12, 0, 13, 14);
    }

    private static void count() {
        BilletBars x = sixBars();
        x.press(0, 200);
        x.law(1, 5000);
        x.press(0, 200);
        x.job(0, 1, 1);
        x.room(6000);
        x.age();
        x.lose(0);
        int[] want = {2, 2, 11, 8, 1, 1, 1, 5};
        for (int what = 0; what <= 7; what++) {
            due("count " + what, x.count(what), want[what]);
        }
        due("count", x.count(8), BAD);
        due("count", x.count(-1), BAD);
    }

    private static long chained(int... parts) {
        long h = 17;
        for (int part : parts) {
            h = 31 * h + part;
        }
        return h;
    }

    private static void digest() {
        due("digest", new BilletBars().digest(), chained(0, 0, 0, 0, 0, 0, 0, 0, 0, 0, 0, 0, 0, 0));
        BilletBars x = plain();
        x.profile(0, 10, 1, 1000);
        x.die(0, 50);
        x.die(1, 1);
        x.order(0, 700, 5);
        x.order(0, 300, 0);
        x.order(1, 900, 6);
        x.job(0, 1, 1);
        x.lose(0);
        x.law(1, 100);
        x.law(2, 30);
        x.law(3, 7);
        x.warm(1);
        x.pass(3);
        x.press(1, 200);
        x.age();
        x.cool(1);
        x.warm(0);
        x.pass(3);
        x.press(0, 200);
        x.press(0, 201);
        due("digest", x.digest(), chained(
            2, 2, 9, 3, 1, 1, 2,
            2, 5, 1, 1, NONE, 0,
            1800, 70, 0, 0, 1400, 470, 0, NONE, 1400, 473, 7, NONE,
            300, 90, 7, 4600, 1013, 6010, 601,
            1, 0, 4));
    }

    private static void refusalsChangeNothing() {
        BilletBars x = sixBars();
        x.sheet(1, 1, 3);
        long before = x.digest();
        x.press(0, 199);
        x.press(2, 200);
        x.nitride(0);
        x.warm(0);
        x.pass(101);
        x.order(0, 99, 1);
        x.law(0, 101);
        x.room(1);
        x.copy(1, 0, 1, 2, 2);
        x.put(1, 2, 0, 9);
        due("digest", x.digest(), before);
        due("law", x.law(0, 0), 0);
        due("get", x.get(1, 1, 0), 0);
    }

    private static void testDies() {
        promise = 1;
        newObject();
        promise = 2;
        profile();
        promise = 3;
        die();
        promise = 4;
        warm();
        promise = 5;
        cool();
        promise = 6;
        nitride();
        promise = 7;
        about();
        promise = 8;
        ready();
        promise = 9;
        pass();
    }

    private static void testPressing() {
        promise = 10;
        law();
        promise = 11;
        press();
        promise = 12;
        bar();
        promise = 13;
        order();
        promise = 14;
        wanted();
        promise = 15;
        pattern();
        promise = 16;
        account();
        promise = 17;
        stock();
        promise = 18;
        best();
    }

    private static void testJobsAndAgeing() {
        promise = 19;
        job();
        promise = 20;
        change();
        promise = 21;
        late();
        promise = 22;
        planned();
        promise = 23;
        room();
        promise = 24;
        age();
        promise = 25;
        batches();
        promise = 26;
        sample();
        promise = 27;
        suspect();
        promise = 28;
        held();
    }

    private static void testSheets() {
        promise = 29;
        drift();
        promise = 30;
        sheet();
        promise = 31;
        lose();
        promise = 32;
        put();
        promise = 33;
        get();
        promise = 34;
        copy();
        promise = 35;
        count();
        promise = 36;
        digest();
        fullObject();
        refusalsChangeNothing();
    }

    public static void main(String[] args) {
        testDies();
        testPressing();
        testJobsAndAgeing();
        testSheets();
        System.out.println(wrong == 0 ? "all promises hold" : wrong + " answers are not as due");
        if (wrong != 0) {
            System.exit(1);
        }
    }
}
