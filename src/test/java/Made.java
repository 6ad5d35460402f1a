/** Objects in the states that the tests begin with; each is made with so few calls that tests may go on. */
final class Made {
    private Made() {
    }

    /** One profile (alloy 0, ratio 10, recipe 0, 1000 grams) and laws that cut nothing off. */
    static BilletBars plain() {
        BilletBars x = new BilletBars();
        x.profile(0, 10, 0, 1000);
        for (int what = 0; what <= 5; what++) {
            x.law(what, 0);
        }
        return x;
    }

    /** plain() with die 0 (limit 50) that may press since this tick, 3. */
    static BilletBars pressing() {
        BilletBars x = plain();
        x.die(0, 50);
        x.warm(0);
        x.pass(3);
        return x;
    }

    /** pressing() with an order whose pieces of 1000 are never cut short by what is wanted. */
    static BilletBars cutting() {
        BilletBars x = pressing();
        x.order(0, 1000, 500);
        return x;
    }

    /** cutting() with bars of as many metres of goods, one behind the other by die 0. */
    static BilletBars metres(int... goods) {
        BilletBars x = cutting();
        for (int metres : goods) {
            // The shortest billets give 2 metres: a head takes what is too much of them.
            int spare = Math.max(0, 2 - metres) * 1000;
            x.law(1, spare);
            x.press(0, (metres * 1000 + spare) / 10);
        }
        x.law(1, 0);
        return x;
    }

    /** Two profiles with recipes 0 and 1, a die and an order of 1000 for each; both dies may press since tick 3. */
    static BilletBars twoRecipes() {
        BilletBars x = plain();
        x.profile(0, 10, 1, 1000);
        for (int profile = 0; profile <= 1; profile++) {
            x.order(profile, 1000, 500);
            x.die(profile, 50);
            x.warm(profile);
        }
        x.pass(3);
        return x;
    }

    /** Bars of 2, 3, 4, 2, 2, 3 metres of goods, by dies (and recipes) 0, 1, 0, 0, 1, 0. */
    static BilletBars sixBars() {
        BilletBars x = twoRecipes();
        x.press(0, 200);
        x.press(1, 300);
        x.press(0, 400);
        x.press(0, 200);
        x.press(1, 200);
        x.press(0, 300);
        return x;
    }

    /** Something of everything, and places left everywhere; the next shot of die 0 has a weld. */
    static BilletBars busy() {
        BilletBars x = new BilletBars();
        x.profile(0, 10, 0, 1000);
        x.profile(1, 7, 1, 300);
        x.profile(2, 80, 3, 9999);
        int[] laws = {19, 450, 250, 350, 4, 6};
        for (int what = 0; what <= 5; what++) {
            x.law(what, laws[what]);
        }
        x.order(0, 900, 20);
        x.order(0, 500, 30);
        x.order(1, 700, 8);
        x.order(1, 300, 5);
        x.order(1, 250, 3);
        x.die(0, 50);
        x.die(1, 30);
        x.die(0, 2);
        x.die(2, 9);
        x.stock(800);
        x.stock(300);
        addJobsAndSheets(x);
        pressSevenBars(x);
        x.room(3000);
        x.age();
        x.sample(1, false);
        x.sample(3, true);
        x.lose(3);
        return x;
    }

    private static void addJobsAndSheets(BilletBars x) {
        x.job(0, 5, 5);
        x.job(1, 3, 6);
        x.job(0, 4, 12);
        x.change(3);
        x.sheet(0, 1, 6);
        x.sheet(1, 0, 4);
        x.sheet(2, 2, 3);
        for (int i = 0; i < 6; i++) {
            x.put(0, 1, i, 990 + 7 * i);
        }
        x.put(1, 0, 2, -5);
        x.put(2, 2, 0, 77777);
    }

    /** Die 0 goes on, die 1 goes on, die 2 is worn down to its limit, die 3 is cold. */
    private static void pressSevenBars(BilletBars x) {
        x.warm(0);
        x.warm(1);
        x.warm(2);
        x.pass(3);
        x.press(0, 300);
        x.press(0, 400);
        x.press(1, 500);
        x.press(2, 350);
        x.press(2, 200);
        x.press(1, 600);
        x.press(0, 700);
    }

    /** Every place for profiles, orders, dies, stock and jobs is taken; bars and sheets are there. */
    static BilletBars crowded() {
        BilletBars x = new BilletBars();
        for (int profile = 0; profile < 8; profile++) {
            x.profile(profile % 3, 20 + profile, profile % 4, 100 + profile);
            x.order(profile, 500 + 10 * profile, 50);
            x.order(profile, 300 + 10 * profile, 60);
            x.order(profile, 200 + 10 * profile, 70);
        }
        for (int die = 0; die < 12; die++) {
            x.die(die % 8, 2 + die);
        }
        for (int n = 0; n < 6; n++) {
            x.stock(1200 - 100 * n);
        }
        for (int job = 0; job < 7; job++) {
            x.job(job, 1 + job, 3 * job);
        }
        x.sheet(0, 2, 200);
        x.put(0, 2, 1, 150);
        x.warm(0);
        x.warm(11);
        x.pass(3);
        x.press(0, 300);
        x.press(11, 400);
        x.press(0, 500);
        return x;
    }

    /**
     * 200 bars of 2000 millimetres of goods: by dies 0 to 3, 50 each and so to their limit; die 4
     * may press, die 5 is cold. 300 pieces of 2000 are wanted yet.
     */
    static BilletBars fullOfBars() {
        BilletBars x = plain();
        x.order(0, 2000, 500);
        for (int die = 0; die < 6; die++) {
            x.die(0, 50);
        }
        for (int die = 0; die < 4; die++) {
            press(x, die, 200, 50);
        }
        x.warm(4);
        x.pass(3);
        return x;
    }

    /** Shots of a die, which is warmed anew for every ten. */
    static void press(BilletBars x, int die, int billet, int shots) {
        for (int shot = 0; shot < shots; shot++) {
            if (shot % 10 == 0) {
                rewarm(x, die);
            }
            x.press(die, billet);
        }
    }

    /** Cools a die, if it is warm, and warms it until it may press. */
    static void rewarm(BilletBars x, int die) {
        x.cool(die);
        x.warm(die);
        x.pass(3);
    }
}
