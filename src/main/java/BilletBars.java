/** Bars from billets: pressing, cutting, planning, ageing, sampling and weighing. See README.md. */
public final class BilletBars {
    public static final int NONE = -1, BAD = -2, NOT = -3, FULL = -4;

    private static final int MOST_PROFILES = 8;
    private static final int MOST_ORDERS = 3;
    private static final int MOST_DIES = 12;
    private static final int MOST_BARS = 200;
    private static final int MOST_STOCK = 6;
    private static final int MOST_JOBS = 7;
    private static final int RECIPES = 4;
    private static final int SHEETS = 4;
    private static final int MOST_ITEMS = 200;

    private static final int LEAST_BILLET = 200;
    private static final int LONGEST_BILLET = 1200;

    private static final int BUTT = 0;
    private static final int HEAD = 1;
    private static final int TAIL = 2;
    private static final int WELD = 3;
    private static final int KERF = 4;
    private static final int STRETCH = 5;
    private static final int[] LAW_LIMITS = {100, 5000, 5000, 5000, 20, 20};

    private static final int LEAST_INT = -2147483648;
    private static final int GREATEST_INT = 2147483647;

    private static final int NO_DRIFT_BAD = -100000;
    private static final int NO_DRIFT_NOT = -100001;

    private final Profiles profiles = new Profiles();
    private final Orders orders = new Orders();
    private final Dies dies = new Dies();
    private final int[] laws = {20, 500, 300, 400, 5, 5};
    private final Shot shot = new Shot();
    private final Pattern pattern = new Pattern();
    private final Bars bars = new Bars();
    private final Accounts accounts = new Accounts();
    private final int[] stockLengths = new int[MOST_STOCK];
    private final Plan plan = new Plan();
    private final Sheets sheets = new Sheets();
    private int tick = 0;
    private int stockSize = 0;
    private int ovenRoom = 100000;
    private int batchesDone = 0;

    public BilletBars() {
    }

    // ---- profiles, dies

    public int profile(int alloy, int ratio, int recipe, int grams) {
        if (!within(alloy, 0, 2) || !within(ratio, 5, 80)) {
            return BAD;
        }
        if (!within(recipe, 0, RECIPES - 1) || !within(grams, 100, 9999)) {
            return BAD;
        }
        return profiles.add(alloy, ratio, recipe, grams);
    }

    public int die(int profile, int limit) {
        if (!profiles.has(profile) || !within(limit, 1, 50)) {
            return BAD;
        }
        return dies.add(profile, limit);
    }

    public int warm(int die) {
        if (!dies.has(die)) {
            return BAD;
        }
        if (dies.isWarm(die)) {
            return NOT;
        }
        dies.warmSince[die] = tick;
        return 1;
    }

    public int cool(int die) {
        if (!dies.has(die)) {
            return BAD;
        }
        if (!dies.isWarm(die)) {
            return NOT;
        }
        int ticksWarm = dies.ticksWarm(die, tick);
        dies.warmSince[die] = NONE;
        return ticksWarm;
    }

    public int nitride(int die) {
        if (!dies.has(die)) {
            return BAD;
        }
        if (dies.isWarm(die)) {
            return NOT;
        }
        int shots = dies.shots[die];
        dies.shots[die] = 0;
        return shots;
    }

    public int about(int die, int what) {
        if (!dies.has(die)) {
            return BAD;
        }
        switch (what) {
            case 0:
                return dies.profile[die];
            case 1:
                return dies.limit[die];
            case 2:
                return dies.shots[die];
            case 3:
                return dies.ticksWarm(die, tick);
            case 4:
                return dies.mayPress(die, tick) ? 1 : 0;
            case 5:
                return dies.shotsEver[die];
            default:
                return BAD;
        }
    }

    public int ready(int profile) {
        if (!profiles.has(profile)) {
            return BAD;
        }
        return dies.leastWorn(profile, tick);
    }

    public int pass(int n) {
        if (!within(n, 1, 100)) {
            return BAD;
        }
        tick += n;
        return tick;
    }

    // ---- pressing

    public int law(int what, int v) {
        if (!within(what, 0, LAW_LIMITS.length - 1) || !within(v, 0, LAW_LIMITS[what])) {
            return BAD;
        }
        int before = laws[what];
        laws[what] = v;
        return before;
    }

    public int press(int die, int billet) {
        if (!dies.has(die) || !within(billet, LEAST_BILLET, LONGEST_BILLET)) {
            return BAD;
        }
        if (!dies.mayPress(die, tick)) {
            return NOT;
        }
        if (bars.size >= MOST_BARS) {
            return FULL;
        }
        int profile = dies.profile[die];
        foresee(profile, billet, bars.latestWas(die, tick - 1));
        bars.add(die, shot, profiles.recipe[profile], profiles.grams[profile], tick);
        accounts.enter(shot);
        orders.serve(profile, pattern.pieces);
        dies.wear(die);
        tick++;
        return shot.goods;
    }

    public int bar(int i, int what) {
        if (!bars.has(i)) {
            return BAD;
        }
        switch (what) {
            case 0:
                return bars.die[i];
            case 1:
                return bars.billet[i];
            case 2:
                return bars.length[i];
            case 3:
                return bars.goods[i];
            case 4:
                return bars.cutOff[i];
            case 5:
                return bars.weld[i];
            case 6:
                return bars.batch[i];
            default:
                return BAD;
        }
    }

    public int order(int profile, int length, int wanted) {
        if (!profiles.has(profile) || !within(length, 100, 9000) || !within(wanted, 0, 500)) {
            return BAD;
        }
        return orders.add(profile, length, wanted);
    }

    public int wanted(int profile, int order) {
        if (!profiles.has(profile) || !within(order, 0, orders.size[profile] - 1)) {
            return BAD;
        }
        return orders.wanted[profile * MOST_ORDERS + order];
    }

    public int pattern(int profile, int usable, int what) {
        if (!profiles.has(profile) || !within(usable, 0, 200000) || !within(what, 0, MOST_ORDERS)) {
            return BAD;
        }
        pattern.seek(orders, profile, usable, laws[KERF]);
        return what == MOST_ORDERS ? pattern.goods : pattern.pieces[what];
    }

    public int account(int what) {
        switch (what) {
            case 0:
                return accounts.heads;
            case 1:
                return accounts.tails;
            case 2:
                return accounts.welds;
            case 3:
                return accounts.goods;
            case 4:
                return accounts.cutOff;
            case 5:
                return accounts.lengths;
            case 6:
                return accounts.billets;
            default:
                return BAD;
        }
    }

    public int stock(int billet) {
        if (!within(billet, LEAST_BILLET, LONGEST_BILLET)) {
            return BAD;
        }
        if (stockSize >= MOST_STOCK) {
            return FULL;
        }
        stockLengths[stockSize] = billet;
        stockSize++;
        return stockSize;
    }

    public int best(int die, boolean weld) {
        if (!dies.has(die)) {
            return BAD;
        }
        int bestBillet = NONE;
        int bestGoods = 0;
        for (int i = 0; i < stockSize; i++) {
            int billet = stockLengths[i];
            foresee(dies.profile[die], billet, weld);
            if (paysMore(shot.goods, billet, bestGoods, bestBillet)) {
                bestBillet = billet;
                bestGoods = shot.goods;
            }
        }
        return bestBillet;
    }

    // ---- jobs

    public int job(int profile, int ticks, int due) {
        if (!profiles.has(profile) || !within(ticks, 1, 50) || !within(due, 0, 1000)) {
            return BAD;
        }
        return plan.add(profiles.alloy[profile], ticks, due);
    }

    public int change(int ticks) {
        if (!within(ticks, 0, 20)) {
            return BAD;
        }
        return plan.setGap(ticks);
    }

    public int late() {
        plan.settle();
        return plan.leastLate;
    }

    public int planned(int i) {
        if (!within(i, 0, plan.size - 1)) {
            return BAD;
        }
        plan.settle();
        return plan.sequence[i];
    }

    // ---- ageing, samples

    public int room(int millimetres) {
        if (!within(millimetres, 1000, 1000000)) {
            return BAD;
        }
        int before = ovenRoom;
        ovenRoom = millimetres;
        return before;
    }

    public int age() {
        int first = bars.firstWaiting();
        if (first == NONE) {
            return NOT;
        }
        int taken = bars.fillOven(first, ovenRoom, batchesDone);
        batchesDone++;
        return taken;
    }

    public int batches() {
        int needed = 0;
        for (int recipe = 0; recipe < RECIPES; recipe++) {
            needed += bars.ovensNeeded(recipe, ovenRoom);
        }
        return needed;
    }

    public int sample(int bar, boolean good) {
        if (!bars.has(bar)) {
            return BAD;
        }
        bars.look[bar] = good ? Bars.GOOD : Bars.POOR;
        return 1;
    }

    public int suspect(int bar) {
        if (!bars.has(bar)) {
            return BAD;
        }
        return bars.isSuspect(bar) ? 1 : 0;
    }

    public int held() {
        int goods = 0;
        for (int i = 0; i < bars.size; i++) {
            if (bars.isSuspect(i)) {
                goods += bars.goods[i];
            }
        }
        return goods;
    }

    // ---- sheets

    public int drift(int i, int j) {
        if (!bars.has(i) || !bars.has(j) || i > j) {
            return NO_DRIFT_BAD;
        }
        int weighed = 0;
        int sum = 0;
        for (int bar = i; bar <= j; bar++) {
            int weight = sheets.weight(bar);
            if (weight != NONE) {
                weighed++;
                sum += weight - bars.grams[bar];
            }
        }
        return weighed == 0 ? NO_DRIFT_NOT : Math.floorDiv(sum, weighed);
    }

    public int sheet(int s, int form, int n) {
        if (!isSheet(s) || !isForm(form) || n > MOST_ITEMS) {
            return BAD;
        }
        return sheets.renew(s, form, n);
    }

    public int lose(int s) {
        if (!isSheet(s)) {
            return BAD;
        }
        return sheets.discard(s);
    }

    public int put(int s, int form, int i, int v) {
        if (!isSheet(s) || !isForm(form)) {
            return BAD;
        }
        int fault = sheets.faultOf(s, form, i);
        if (fault != 0) {
            return sheets.found(fault);
        }
        sheets.write(s, i, v);
        return 1;
    }

    public int get(int s, int form, int i) {
        if (!isSheet(s) || !isForm(form)) {
            return LEAST_INT;
        }
        int fault = sheets.faultOf(s, form, i);
        if (fault != 0) {
            sheets.found(fault);
            return LEAST_INT;
        }
        return sheets.items[s * MOST_ITEMS + i];
    }

    public int copy(int s, int i, int t, int j, int n) {
        if (!isSheet(s) || !isSheet(t)) {
            return BAD;
        }
        return sheets.move(s, i, t, j, n);
    }

    public int count(int what) {
        switch (what) {
            case 0:
                return profiles.size;
            case 1:
                return dies.size;
            case 2:
                return tick;
            case 3:
                return bars.size;
            case 4:
                return plan.size;
            case 5:
                return batchesDone;
            case 6:
                return sheets.finding;
            case 7:
                return bars.waiting();
            default:
                return BAD;
        }
    }

    public long digest() {
        long h = 17;
        for (int what = 0; what <= 5; what++) {
            h = 31 * h + count(what);
        }
        h = 31 * h + count(7);
        for (int die = 0; die < dies.size; die++) {
            for (int what = 2; what <= 4; what++) {
                h = 31 * h + about(die, what);
            }
        }
        for (int i = 0; i < bars.size; i++) {
            for (int what = 3; what <= 6; what++) {
                h = 31 * h + bar(i, what);
            }
        }
        for (int what = 0; what <= 6; what++) {
            h = 31 * h + account(what);
        }
        for (int profile = 0; profile < profiles.size; profile++) {
            for (int order = 0; order < orders.size[profile]; order++) {
                h = 31 * h + wanted(profile, order);
            }
        }
        return h;
    }

    private static boolean within(int v, int least, int most) {
        return v >= least && v <= most;
    }

    private static boolean isSheet(int s) {
        return within(s, 0, SHEETS - 1);
    }

    private static boolean isForm(int form) {
        return within(form, Sheets.BYTES, Sheets.INTS);
    }

    /** Leaves in shot and pattern what a billet would give now; changes nothing that lasts. */
    private void foresee(int profile, int billet, boolean welded) {
        shot.trim(laws, billet, profiles.ratio[profile], welded);
        pattern.seek(orders, profile, shot.usable, laws[KERF]);
        shot.share(pattern.goods);
    }

    /** Whether goods by billet beat the best ones; cross products, as a quotient would be rounded. */
    private static boolean paysMore(int goods, int billet, int bestGoods, int bestBillet) {
        if (goods <= 0) {
            return false;
        }
        if (bestBillet == NONE) {
            return true;
        }
        long ours = (long) goods * bestBillet;
        long theirs = (long) bestGoods * billet;
        return ours > theirs || ours == theirs && billet < bestBillet;
    }

    private static final class Profiles {
        final int[] alloy = new int[MOST_PROFILES];
        final int[] ratio = new int[MOST_PROFILES];
        final int[] recipe = new int[MOST_PROFILES];
        final int[] grams = new int[MOST_PROFILES];
        int size = 0;

        boolean has(int i) {
            return i >= 0 && i < size;
        }

        int add(int newAlloy, int newRatio, int newRecipe, int newGrams) {
            if (size >= MOST_PROFILES) {
                return FULL;
            }
            alloy[size] = newAlloy;
            ratio[size] = newRatio;
            recipe[size] = newRecipe;
            grams[size] = newGrams;
            size++;
            return size - 1;
        }
    }

    /** The orders of all profiles; those of a profile stand together in the rows. */
    private static final class Orders {
        final int[] size = new int[MOST_PROFILES];
        final int[] length = new int[MOST_PROFILES * MOST_ORDERS];
        final int[] wanted = new int[MOST_PROFILES * MOST_ORDERS];

        int add(int profile, int newLength, int newWanted) {
            int number = size[profile];
            if (number >= MOST_ORDERS) {
                return FULL;
            }
            length[profile * MOST_ORDERS + number] = newLength;
            wanted[profile * MOST_ORDERS + number] = newWanted;
            size[profile]++;
            return number;
        }

        void serve(int profile, int[] pieces) {
            for (int order = 0; order < MOST_ORDERS; order++) {
                wanted[profile * MOST_ORDERS + order] -= pieces[order];
            }
        }
    }

    private static final class Dies {
        final int[] profile = new int[MOST_DIES];
        final int[] limit = new int[MOST_DIES];
        final int[] shots = new int[MOST_DIES];
        final int[] shotsEver = new int[MOST_DIES];
        /** The tick since which a die is warm; NONE: it is cold. */
        final int[] warmSince = new int[MOST_DIES];
        int size = 0;

        boolean has(int i) {
            return i >= 0 && i < size;
        }

        int add(int newProfile, int newLimit) {
            if (size >= MOST_DIES) {
                return FULL;
            }
            profile[size] = newProfile;
            limit[size] = newLimit;
            warmSince[size] = NONE;
            size++;
            return size - 1;
        }

        boolean isWarm(int i) {
            return warmSince[i] != NONE;
        }

        int ticksWarm(int i, int now) {
            return isWarm(i) ? now - warmSince[i] : NONE;
        }

        boolean mayPress(int i, int now) {
            return within(ticksWarm(i, now), 3, 12) && shots[i] < limit[i];
        }

        int leastWorn(int ofProfile, int now) {
            int found = NONE;
            for (int i = 0; i < size; i++) {
                if (profile[i] == ofProfile && mayPress(i, now)
                        && (found == NONE || shots[i] < shots[found])) {
                    found = i;
                }
            }
            return found;
        }

        void wear(int i) {
            shots[i]++;
            shotsEver[i]++;
        }
    }

    /** One bar as it is, or would be, pressed: made once for each object and used again. */
    private static final class Shot {
        int billet = 0;
        int length = 0;
        int head = 0;
        int tail = 0;
        int weld = 0;
        int usable = 0;
        int goods = 0;
        int cutOff = 0;

        void trim(int[] laws, int newBillet, int ratio, boolean welded) {
            billet = newBillet;
            length = Math.max(0, billet - laws[BUTT]) * ratio * (1000 + laws[STRETCH]) / 1000;
            int left = length;
            head = Math.min(laws[HEAD], left);
            left -= head;
            tail = Math.min(laws[TAIL], left);
            left -= tail;
            weld = welded ? Math.min(laws[WELD], left) : 0;
            usable = left - weld;
        }

        void share(int newGoods) {
            goods = newGoods;
            cutOff = usable - newGoods;
        }
    }

    /** The pattern for a usable length, found anew by each seek. */
    private static final class Pattern {
        private static final int MOST_PIECES = 60;

        final int[] pieces = new int[MOST_ORDERS];
        int goods = 0;
        private final int[] length = new int[MOST_ORDERS];
        private final int[] most = new int[MOST_ORDERS];
        private int cutWidth = 0;

        void seek(Orders orders, int profile, int usable, int kerf) {
            load(orders, profile);
            cutWidth = kerf;
            goods = 0;
            pieces[0] = 0;
            pieces[1] = 0;
            pieces[2] = 0;
            int space = usable + kerf;
            int others = most[1] * length[1] + most[2] * length[2];
            // From the most pieces down: of like patterns the first one found has the greatest n 0, then n 1.
            for (int n0 = fitting(0, space); n0 >= 0; n0--) {
                // With so few of this order, all the others could not make up for it.
                if (n0 * length[0] + others < goods) {
                    break;
                }
                seekSecond(n0, space - n0 * (length[0] + kerf));
            }
        }

        private void load(Orders orders, int profile) {
            for (int order = 0; order < MOST_ORDERS; order++) {
                boolean there = order < orders.size[profile];
                int at = profile * MOST_ORDERS + order;
                length[order] = there ? orders.length[at] : 0;
                most[order] = there ? Math.min(MOST_PIECES, orders.wanted[at]) : 0;
            }
        }

        private void seekSecond(int n0, int space) {
            for (int n1 = fitting(1, space); n1 >= 0; n1--) {
                if (n0 * length[0] + n1 * length[1] + most[2] * length[2] < goods) {
                    break;
                }
                // Each piece more is more goods, so no smaller n 2 can be the pattern.
                offer(n0, n1, fitting(2, space - n1 * (length[1] + cutWidth)));
            }
        }

        private int fitting(int order, int space) {
            int step = length[order] + cutWidth;
            if (most[order] <= 0 || step <= 0 || space < 0) {
                return 0;
            }
            return Math.min(most[order], space / step);
        }

        private void offer(int n0, int n1, int n2) {
            int sum = n0 * length[0] + n1 * length[1] + n2 * length[2];
            boolean fewer = n0 + n1 + n2 < pieces[0] + pieces[1] + pieces[2];
            if (sum > goods || sum == goods && fewer) {
                goods = sum;
                pieces[0] = n0;
                pieces[1] = n1;
                pieces[2] = n2;
            }
        }
    }

    private static final class Bars {
        static final int GOOD = 1;
        static final int POOR = 2;

        final int[] die = new int[MOST_BARS];
        final int[] billet = new int[MOST_BARS];
        final int[] length = new int[MOST_BARS];
        final int[] goods = new int[MOST_BARS];
        final int[] cutOff = new int[MOST_BARS];
        final int[] weld = new int[MOST_BARS];
        final int[] batch = new int[MOST_BARS];
        final int[] recipe = new int[MOST_BARS];
        final int[] grams = new int[MOST_BARS];
        /** 0: not looked at yet. */
        final int[] look = new int[MOST_BARS];
        int size = 0;
        private int latestTick = NONE;

        boolean has(int i) {
            return i >= 0 && i < size;
        }

        boolean latestWas(int byDie, int inTick) {
            return size > 0 && die[size - 1] == byDie && latestTick == inTick;
        }

        void add(int byDie, Shot shot, int ofRecipe, int ofGrams, int now) {
            if (size >= MOST_BARS) {
                return;
            }
            die[size] = byDie;
            billet[size] = shot.billet;
            length[size] = shot.length;
            goods[size] = shot.goods;
            cutOff[size] = shot.cutOff;
            weld[size] = shot.weld;
            batch[size] = NONE;
            recipe[size] = ofRecipe;
            grams[size] = ofGrams;
            size++;
            latestTick = now;
        }

        boolean waits(int i) {
            return goods[i] > 0 && batch[i] == NONE;
        }

        int waiting() {
            int number = 0;
            for (int i = 0; i < size; i++) {
                if (waits(i)) {
                    number++;
                }
            }
            return number;
        }

        int firstWaiting() {
            for (int i = 0; i < size; i++) {
                if (waits(i)) {
                    return i;
                }
            }
            return NONE;
        }

        /** The first one goes in however long it is; behind one longer than the room nothing fits. */
        int fillOven(int first, int oven, int number) {
            int taken = 0;
            int load = 0;
            for (int i = first; i < size; i++) {
                if (!waits(i) || recipe[i] != recipe[first]) {
                    continue;
                }
                if (taken > 0 && load + goods[i] > oven) {
                    break;
                }
                batch[i] = number;
                load += goods[i];
                taken++;
            }
            return taken;
        }

        /** Batches of one recipe never depend on bars of another, so each is counted by itself. */
        int ovensNeeded(int ofRecipe, int oven) {
            int ovens = 0;
            int load = 0;
            for (int i = 0; i < size; i++) {
                if (!waits(i) || recipe[i] != ofRecipe) {
                    continue;
                }
                if (ovens == 0 || load + goods[i] > oven) {
                    ovens++;
                    load = 0;
                }
                load += goods[i];
            }
            return ovens;
        }

        boolean isSuspect(int i) {
            return look[i] != GOOD && (poorUpTo(i) || poorFrom(i));
        }

        private boolean poorUpTo(int last) {
            for (int i = last; i >= 0; i--) {
                if (die[i] == die[last] && look[i] != 0) {
                    return look[i] == POOR;
                }
            }
            return false;
        }

        private boolean poorFrom(int first) {
            for (int i = first; i < size; i++) {
                if (die[i] == die[first] && look[i] != 0) {
                    return look[i] == POOR;
                }
            }
            return false;
        }
    }

    private static final class Accounts {
        int heads = 0;
        int tails = 0;
        int welds = 0;
        int goods = 0;
        int cutOff = 0;
        int lengths = 0;
        int billets = 0;

        void enter(Shot shot) {
            heads += shot.head;
            tails += shot.tail;
            welds += shot.weld;
            goods += shot.goods;
            cutOff += shot.cutOff;
            lengths += shot.length;
            billets += shot.billet;
        }
    }

    /** The jobs and the order that is least late, sought again only when jobs or the gap changed. */
    private static final class Plan {
        final int[] sequence = new int[MOST_JOBS];
        int size = 0;
        int leastLate = 0;
        private final int[] alloy = new int[MOST_JOBS];
        private final int[] ticks = new int[MOST_JOBS];
        private final int[] due = new int[MOST_JOBS];
        private final int[] trial = new int[MOST_JOBS];
        private final boolean[] used = new boolean[MOST_JOBS];
        private int gap = 2;
        private int leastEnd = 0;
        private boolean settled = false;

        int add(int newAlloy, int newTicks, int newDue) {
            if (size >= MOST_JOBS) {
                return FULL;
            }
            alloy[size] = newAlloy;
            ticks[size] = newTicks;
            due[size] = newDue;
            size++;
            settled = false;
            return size - 1;
        }

        int setGap(int newGap) {
            int before = gap;
            gap = newGap;
            settled = false;
            return before;
        }

        void settle() {
            if (settled) {
                return;
            }
            leastLate = GREATEST_INT;
            leastEnd = GREATEST_INT;
            fillPlace(0, 0, 0);
            settled = true;
        }

        /** Tries jobs by number, so that of like orders the one that is kept is the first. */
        private void fillPlace(int place, int end, int late) {
            if (late > leastLate) {
                return;
            }
            if (place >= size || place >= MOST_JOBS) {
                keepIfBetter(end, late);
                return;
            }
            for (int next = 0; next < size; next++) {
                if (!used[next]) {
                    tryJob(place, next, end, late);
                }
            }
        }

        private void tryJob(int place, int next, int end, int late) {
            boolean changes = place > 0 && alloy[trial[place - 1]] != alloy[next];
            int nextEnd = end + (changes ? gap : 0) + ticks[next];
            used[next] = true;
            trial[place] = next;
            fillPlace(place + 1, nextEnd, late + Math.max(0, nextEnd - due[next]));
            used[next] = false;
        }

        private void keepIfBetter(int end, int late) {
            if (late < leastLate || late == leastLate && end < leastEnd) {
                leastLate = late;
                leastEnd = end;
                for (int place = 0; place < size; place++) {
                    sequence[place] = trial[place];
                }
            }
        }
    }

    private static final class Sheets {
        static final int BYTES = 0;
        static final int SHORTS = 1;
        static final int INTS = 2;

        private static final int NULL = 1;
        private static final int INDEX = 2;
        private static final int CAST = 3;
        private static final int STORE = 4;
        private static final int SIZE = 5;
        private static final int LOST = -1;

        final int[] items = new int[SHEETS * MOST_ITEMS];
        int finding = 0;
        private final int[] forms = new int[SHEETS];
        private final int[] sizes = {LOST, LOST, LOST, LOST};

        int found(int number) {
            finding = number;
            return -10 - number;
        }

        int renew(int s, int form, int n) {
            if (n < 0) {
                return found(SIZE);
            }
            forms[s] = form;
            sizes[s] = n;
            for (int i = 0; i < n; i++) {
                items[s * MOST_ITEMS + i] = 0;
            }
            return n;
        }

        int discard(int s) {
            if (sizes[s] == LOST) {
                return found(NULL);
            }
            int had = sizes[s];
            sizes[s] = LOST;
            return had;
        }

        /** The number of the finding that an item treated as of a form would be; 0: none. */
        int faultOf(int s, int form, int i) {
            if (sizes[s] == LOST) {
                return NULL;
            }
            if (forms[s] != form) {
                return CAST;
            }
            return i < 0 || i >= sizes[s] ? INDEX : 0;
        }

        void write(int s, int i, int v) {
            int kept = v;
            if (forms[s] == BYTES) {
                kept = (byte) v;
            } else if (forms[s] == SHORTS) {
                kept = (short) v;
            }
            items[s * MOST_ITEMS + i] = kept;
        }

        int move(int s, int i, int t, int j, int n) {
            if (sizes[s] == LOST || sizes[t] == LOST) {
                return found(NULL);
            }
            if (forms[s] != forms[t]) {
                return found(STORE);
            }
            // Differences of numbers from 0 up do not wrap, as i + n might.
            if (i < 0 || j < 0 || n < 0 || n > sizes[s] - i || n > sizes[t] - j) {
                return found(INDEX);
            }
            System.arraycopy(items, s * MOST_ITEMS + i, items, t * MOST_ITEMS + j, n);
            return 1;
        }

        /** NONE, where the bar has no weight; a lost sheet has fewer than 0 items. */
        int weight(int bar) {
            if (bar < 0 || bar >= sizes[0]) {
                return NONE;
            }
            int v = items[bar];
            return within(v, 1, 20000) ? v : NONE;
        }
    }
}
