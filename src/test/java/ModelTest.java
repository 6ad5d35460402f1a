import java.util.ArrayList;
import java.util.Arrays;
import java.util.List;
import java.util.Random;

// Runs of calls drawn from fixed seeds, each answer compared with that of a plain second model.
public final class ModelTest {
    private static final int RUNS = 1200;
    /** With those that a run begins with and the digests between, these stay below 512. */
    private static final int CALLS = 440;
    private static final int NONE = -1;
    private static final int BAD = -2;
    private static final int NOT = -3;
    private static final int FULL = -4;
    private static final int[] EXTREMES = {Integer.MIN_VALUE, Integer.MAX_VALUE, -1, 0, 1, 1 << 30, Integer.MIN_VALUE + 1};

    private static final class Profile {
        int alloy;
        int ratio;
        int recipe;
        int grams;
        final List<int[]> orders = new ArrayList<>();
    }

    private static final class Die {
        Profile profile;
        int number;
        int limit;
        int shots;
        int ever;
        Integer warm;
    }

    private static final class Bar {
        Die die;
        int tick;
        int billet;
        int all;
        int head;
        int tail;
        int weld;
        int goods;
        int rest;
        int[] pieces;
        int batch = NONE;
        Boolean look;
    }

    /** Written from the document by trying out everything, without regard to speed. */
    private static final class Model {
        final List<Profile> profiles = new ArrayList<>();
        final List<Die> dies = new ArrayList<>();
        final List<Bar> bars = new ArrayList<>();
        final List<Integer> stock = new ArrayList<>();
        final List<int[]> jobs = new ArrayList<>();
        final int[] laws = {20, 500, 300, 400, 5, 5};
        final Object[] sheets = new Object[4];
        int tick;
        int change = 2;
        int room = 100000;
        int batches;
        int finding;
        int[] bestOrder;
        int bestLate;
        int bestEnd;

        int call(String name, int[] a, boolean yes) {
            switch (name) {
                case "profile": return profile(a[0], a[1], a[2], a[3]);
                case "die": return die(a[0], a[1]);
                case "warm": case "cool": case "nitride": return care(name, a[0]);
                case "about": return about(a[0], a[1]);
                case "ready": return ready(a[0]);
                case "pass": return a[0] < 1 || a[0] > 100 ? BAD : (tick += a[0]);
                case "law": return law(a[0], a[1]);
                case "press": return press(a[0], a[1]);
                case "bar": return bar(a[0], a[1]);
                case "order": return order(a[0], a[1], a[2]);
                case "wanted": return wanted(a[0], a[1]);
                case "pattern": return pattern(a[0], a[1], a[2]);
                case "account": return account(a[0]);
                case "stock": return stock(a[0]);
                case "best": return best(a[0], yes);
                case "job": return job(a[0], a[1], a[2]);
                case "change": return change(a[0]);
                case "late": plan(); return bestLate;
                case "planned": return planned(a[0]);
                case "room": return room(a[0]);
                case "age": return age();
                case "batches": return wouldBatch();
                case "sample": return sample(a[0], yes);
                case "suspect": return a[0] < 0 || a[0] >= bars.size() ? BAD : suspect(a[0]) ? 1 : 0;
                case "held": return held();
                case "drift": return drift(a[0], a[1]);
                case "sheet": return sheet(a[0], a[1], a[2]);
                case "lose": return lose(a[0]);
                case "put": return put(a[0], a[1], a[2], a[3]);
                case "get": return get(a[0], a[1], a[2]);
                case "copy": return copy(a[0], a[1], a[2], a[3], a[4]);
                case "count": return count(a[0]);
                default: throw new IllegalStateException(name);
            }
        }

        int profile(int alloy, int ratio, int recipe, int grams) {
            if (alloy < 0 || alloy > 2 || ratio < 5 || ratio > 80 || recipe < 0 || recipe > 3 || grams < 100 || grams > 9999) {
                return BAD;
            }
            if (profiles.size() == 8) {
                return FULL;
            }
            Profile p = new Profile();
            p.alloy = alloy;
            p.ratio = ratio;
            p.recipe = recipe;
            p.grams = grams;
            profiles.add(p);
            return profiles.indexOf(p);
        }

        Profile profileAt(int i) {
            return i < 0 || i >= profiles.size() ? null : profiles.get(i);
        }

        Die dieAt(int i) {
            return i < 0 || i >= dies.size() ? null : dies.get(i);
        }

        int die(int profile, int limit) {
            if (profileAt(profile) == null || limit < 1 || limit > 50) {
                return BAD;
            }
            if (dies.size() == 12) {
                return FULL;
            }
            Die d = new Die();
            d.profile = profileAt(profile);
            d.limit = limit;
            d.number = dies.size();
            dies.add(d);
            return d.number;
        }

        int care(String name, int die) {
            Die d = dieAt(die);
            if (d == null) {
                return BAD;
            }
            if (name.equals("cool") ? d.warm == null : d.warm != null) {
                return NOT;
            }
            int answer = 1;
            if (name.equals("warm")) {
                d.warm = tick;
            } else if (name.equals("cool")) {
                answer = tick - d.warm;
                d.warm = null;
            } else {
                answer = d.shots;
                d.shots = 0;
            }
            return answer;
        }

        boolean mayPress(Die d) {
            return d.warm != null && tick - d.warm >= 3 && tick - d.warm <= 12 && d.shots < d.limit;
        }

        int about(int die, int what) {
            Die d = dieAt(die);
            if (d == null || what < 0 || what > 5) {
                return BAD;
            }
            return new int[] {profiles.indexOf(d.profile), d.limit, d.shots, d.warm == null ? NONE : tick - d.warm,
                mayPress(d) ? 1 : 0, d.ever}[what];
        }

        int ready(int profile) {
            if (profileAt(profile) == null) {
                return BAD;
            }
            for (int shots = 0; shots < 50; shots++) {
                for (Die d : dies) {
                    if (d.profile == profileAt(profile) && d.shots == shots && mayPress(d)) {
                        return d.number;
                    }
                }
            }
            return NONE;
        }

        int law(int what, int v) {
            int[] most = {100, 5000, 5000, 5000, 20, 20};
            if (what < 0 || what > 5 || v < 0 || v > most[what]) {
                return BAD;
            }
            int was = laws[what];
            laws[what] = v;
            return was;
        }

        /** n 0, n 1, n 2, goods, out of all that fit. */
        int[] allPatterns(Profile p, int usable) {
            int[] len = new int[3];
            int[] most = new int[3];
            for (int k = 0; k < p.orders.size(); k++) {
                len[k] = p.orders.get(k)[0];
                most[k] = Math.min(60, p.orders.get(k)[1]);
            }
            int[] best = {0, 0, 0, 0};
            int kerf = laws[4];
            for (int a = 0; a <= most[0]; a++) {
                for (int b = 0; b <= most[1]; b++) {
                    for (int c = 0; c <= most[2]; c++) {
                        if (a * (len[0] + kerf) + b * (len[1] + kerf) + c * (len[2] + kerf) > usable + kerf) {
                            break;
                        }
                        int[] now = {a, b, c, a * len[0] + b * len[1] + c * len[2]};
                        if (betterPattern(now, best)) {
                            best = now;
                        }
                    }
                }
            }
            return best;
        }

        static boolean betterPattern(int[] x, int[] y) {
            if (x[3] != y[3]) {
                return x[3] > y[3];
            }
            int pieces = x[0] + x[1] + x[2] - y[0] - y[1] - y[2];
            if (pieces != 0) {
                return pieces < 0;
            }
            return x[0] != y[0] ? x[0] > y[0] : x[1] > y[1];
        }

        Bar would(Die d, int billet, boolean weld) {
            Bar b = new Bar();
            b.die = d;
            b.tick = tick;
            b.billet = billet;
            b.all = (int) Math.floor(Math.max(0, billet - laws[0]) * (double) d.profile.ratio * (1000 + laws[5]) / 1000);
            int left = b.all;
            b.head = Math.min(left, laws[1]);
            b.tail = Math.min(left - b.head, laws[2]);
            b.weld = weld ? Math.min(left - b.head - b.tail, laws[3]) : 0;
            left -= b.head + b.tail + b.weld;
            b.pieces = allPatterns(d.profile, left);
            b.goods = b.pieces[3];
            b.rest = left - b.goods;
            return b;
        }

        int press(int die, int billet) {
            Die d = dieAt(die);
            if (d == null || billet < 200 || billet > 1200) {
                return BAD;
            }
            if (!mayPress(d)) {
                return NOT;
            }
            if (bars.size() == 200) {
                return FULL;
            }
            Bar latest = bars.isEmpty() ? null : bars.get(bars.size() - 1);
            Bar b = would(d, billet, latest != null && latest.die == d && latest.tick == tick - 1);
            bars.add(b);
            for (int k = 0; k < d.profile.orders.size(); k++) {
                d.profile.orders.get(k)[1] -= b.pieces[k];
            }
            d.shots++;
            d.ever++;
            tick++;
            return b.goods;
        }

        int bar(int i, int what) {
            if (i < 0 || i >= bars.size() || what < 0 || what > 6) {
                return BAD;
            }
            Bar b = bars.get(i);
            return new int[] {b.die.number, b.billet, b.all, b.goods, b.rest, b.weld, b.batch}[what];
        }

        int order(int profile, int length, int wanted) {
            Profile p = profileAt(profile);
            if (p == null || length < 100 || length > 9000 || wanted < 0 || wanted > 500) {
                return BAD;
            }
            if (p.orders.size() == 3) {
                return FULL;
            }
            p.orders.add(new int[] {length, wanted});
            return p.orders.size() - 1;
        }

        int wanted(int profile, int order) {
            Profile p = profileAt(profile);
            return p == null || order < 0 || order >= p.orders.size() ? BAD : p.orders.get(order)[1];
        }

        int pattern(int profile, int usable, int what) {
            Profile p = profileAt(profile);
            return p == null || usable < 0 || usable > 200000 || what < 0 || what > 3 ? BAD : allPatterns(p, usable)[what];
        }

        int account(int what) {
            if (what < 0 || what > 6) {
                return BAD;
            }
            int sum = 0;
            for (Bar b : bars) {
                sum += new int[] {b.head, b.tail, b.weld, b.goods, b.rest, b.all, b.billet}[what];
            }
            return sum;
        }

        int stock(int billet) {
            if (billet < 200 || billet > 1200) {
                return BAD;
            }
            if (stock.size() == 6) {
                return FULL;
            }
            stock.add(billet);
            return stock.size();
        }

        int best(int die, boolean weld) {
            Die d = dieAt(die);
            if (d == null) {
                return BAD;
            }
            List<Integer> lengths = new ArrayList<>(stock);
            lengths.sort(null);
            Bar best = null;
            for (int billet : lengths) {
                Bar b = would(d, billet, weld);
                if (b.goods > 0 && (best == null || (long) b.goods * best.billet > (long) best.goods * b.billet)) {
                    best = b;
                }
            }
            return best == null ? NONE : best.billet;
        }

        int job(int profile, int ticks, int due) {
            if (profileAt(profile) == null || ticks < 1 || ticks > 50 || due < 0 || due > 1000) {
                return BAD;
            }
            if (jobs.size() == 7) {
                return FULL;
            }
            jobs.add(new int[] {profileAt(profile).alloy, ticks, due});
            return jobs.size() - 1;
        }

        int change(int ticks) {
            if (ticks < 0 || ticks > 20) {
                return BAD;
            }
            int was = change;
            change = ticks;
            return was;
        }

        void plan() {
            bestOrder = null;
            permute(new ArrayList<>());
        }

        void permute(List<Integer> row) {
            if (row.size() == jobs.size()) {
                weigh(row);
                return;
            }
            for (int j = jobs.size() - 1; j >= 0; j--) {
                if (!row.contains(j)) {
                    row.add(j);
                    permute(row);
                    row.remove(row.size() - 1);
                }
            }
        }

        void weigh(List<Integer> row) {
            int end = 0;
            int late = 0;
            for (int k = 0; k < row.size(); k++) {
                int[] job = jobs.get(row.get(k));
                end += job[1] + (k > 0 && jobs.get(row.get(k - 1))[0] != job[0] ? change : 0);
                late += Math.max(0, end - job[2]);
            }
            int[] now = row.stream().mapToInt(Integer::intValue).toArray();
            if (bestOrder == null || late < bestLate || late == bestLate
                    && (end < bestEnd || end == bestEnd && Arrays.compare(now, bestOrder) < 0)) {
                bestOrder = now;
                bestLate = late;
                bestEnd = end;
            }
        }

        int planned(int i) {
            if (i < 0 || i >= jobs.size()) {
                return BAD;
            }
            plan();
            return bestOrder[i];
        }

        int room(int millimetres) {
            if (millimetres < 1000 || millimetres > 1000000) {
                return BAD;
            }
            int was = room;
            room = millimetres;
            return was;
        }

        List<Bar> waiting() {
            List<Bar> row = new ArrayList<>();
            for (Bar b : bars) {
                if (b.goods > 0 && b.batch == NONE) {
                    row.add(b);
                }
            }
            return row;
        }

        List<Bar> nextBatch(List<Bar> waiting) {
            List<Bar> batch = new ArrayList<>();
            List<Bar> line = new ArrayList<>(waiting);
            line.removeIf(b -> b.die.profile.recipe != waiting.get(0).die.profile.recipe);
            if (line.get(0).goods > room) {
                batch.add(line.get(0));
                return batch;
            }
            int sum = 0;
            for (Bar b : line) {
                sum += b.goods;
                if (sum > room) {
                    break;
                }
                batch.add(b);
            }
            return batch;
        }

        int age() {
            if (waiting().isEmpty()) {
                return NOT;
            }
            List<Bar> batch = nextBatch(waiting());
            for (Bar b : batch) {
                b.batch = batches;
            }
            batches++;
            return batch.size();
        }

        int wouldBatch() {
            List<Bar> left = waiting();
            int number = 0;
            while (!left.isEmpty()) {
                left.removeAll(nextBatch(left));
                number++;
            }
            return number;
        }

        int sample(int bar, boolean good) {
            if (bar < 0 || bar >= bars.size()) {
                return BAD;
            }
            bars.get(bar).look = good;
            return 1;
        }

        boolean suspect(int i) {
            Bar b = bars.get(i);
            if (b.look != null && b.look) {
                return false;
            }
            for (int j = 0; j < bars.size(); j++) {
                Bar c = bars.get(j);
                if (c.die == b.die && c.look != null && !c.look) {
                    boolean between = false;
                    for (int k = Math.min(i, j) + 1; k < Math.max(i, j); k++) {
                        Bar d = bars.get(k);
                        between |= d.die == b.die && d.look != null && d.look;
                    }
                    if (!between) {
                        return true;
                    }
                }
            }
            return false;
        }

        int held() {
            int sum = 0;
            for (int i = 0; i < bars.size(); i++) {
                sum += suspect(i) ? bars.get(i).goods : 0;
            }
            return sum;
        }

        static int sizeOf(Object row) {
            return java.lang.reflect.Array.getLength(row);
        }

        static int formOf(Object row) {
            return row instanceof byte[] ? 0 : row instanceof short[] ? 1 : 2;
        }

        int drift(int i, int j) {
            if (i < 0 || j >= bars.size() || i > j) {
                return -100000;
            }
            long sum = 0;
            long number = 0;
            for (int k = i; k <= j; k++) {
                if (sheets[0] != null && k < sizeOf(sheets[0])) {
                    int weight = java.lang.reflect.Array.getInt(sheets[0], k);
                    if (weight >= 1 && weight <= 20000) {
                        sum += weight - bars.get(k).die.profile.grams;
                        number++;
                    }
                }
            }
            return number == 0 ? -100001 : (int) Math.floor((double) sum / number);
        }

        int find(int number) {
            finding = number;
            return -10 - number;
        }

        int sheet(int s, int form, int n) {
            if (s < 0 || s > 3 || form < 0 || form > 2 || n > 200) {
                return BAD;
            }
            if (n < 0) {
                return find(5);
            }
            sheets[s] = form == 0 ? new byte[n] : form == 1 ? new short[n] : new int[n];
            return n;
        }

        int lose(int s) {
            if (s < 0 || s > 3) {
                return BAD;
            }
            if (sheets[s] == null) {
                return find(1);
            }
            int had = sizeOf(sheets[s]);
            sheets[s] = null;
            return had;
        }

        int fault(int s, int form, int i) {
            if (s < 0 || s > 3 || form < 0 || form > 2) {
                return BAD;
            }
            if (sheets[s] == null) {
                return find(1);
            }
            if (formOf(sheets[s]) != form) {
                return find(3);
            }
            return i < 0 || i >= sizeOf(sheets[s]) ? find(2) : 1;
        }

        int put(int s, int form, int i, int v) {
            int answer = fault(s, form, i);
            if (answer == 1) {
                Object row = sheets[s];
                if (row instanceof byte[]) {
                    ((byte[]) row)[i] = (byte) v;
                } else if (row instanceof short[]) {
                    ((short[]) row)[i] = (short) v;
                } else {
                    ((int[]) row)[i] = v;
                }
            }
            return answer;
        }

        int get(int s, int form, int i) {
            return fault(s, form, i) == 1 ? java.lang.reflect.Array.getInt(sheets[s], i) : Integer.MIN_VALUE;
        }

        int copy(int s, int i, int t, int j, int n) {
            if (s < 0 || s > 3 || t < 0 || t > 3) {
                return BAD;
            }
            if (sheets[s] == null || sheets[t] == null) {
                return find(1);
            }
            if (formOf(sheets[s]) != formOf(sheets[t])) {
                return find(4);
            }
            if (i < 0 || j < 0 || n < 0 || (long) i + n > sizeOf(sheets[s]) || (long) j + n > sizeOf(sheets[t])) {
                return find(2);
            }
            System.arraycopy(sheets[s], i, sheets[t], j, n);
            return 1;
        }

        int count(int what) {
            if (what < 0 || what > 7) {
                return BAD;
            }
            return new int[] {profiles.size(), dies.size(), tick, bars.size(), jobs.size(), batches, finding,
                waiting().size()}[what];
        }

        long digest() {
            List<Integer> parts = new ArrayList<>(List.of(count(0), count(1), count(2), count(3), count(4), count(5), count(7)));
            for (Die d : dies) {
                parts.addAll(List.of(about(d.number, 2), about(d.number, 3), about(d.number, 4)));
            }
            for (Bar b : bars) {
                parts.addAll(List.of(b.goods, b.rest, b.weld, b.batch));
            }
            for (int what = 0; what <= 6; what++) {
                parts.add(account(what));
            }
            for (Profile p : profiles) {
                for (int[] order : p.orders) {
                    parts.add(order[1]);
                }
            }
            long h = 17;
            for (int part : parts) {
                h = 31 * h + part;
            }
            return h;
        }
    }

    private static int call(BilletBars x, String name, int[] a, boolean yes) {
        switch (name) {
            case "profile": return x.profile(a[0], a[1], a[2], a[3]);
            case "die": return x.die(a[0], a[1]);
            case "warm": return x.warm(a[0]);
            case "cool": return x.cool(a[0]);
            case "nitride": return x.nitride(a[0]);
            case "about": return x.about(a[0], a[1]);
            case "ready": return x.ready(a[0]);
            case "pass": return x.pass(a[0]);
            case "law": return x.law(a[0], a[1]);
            case "press": return x.press(a[0], a[1]);
            case "bar": return x.bar(a[0], a[1]);
            case "order": return x.order(a[0], a[1], a[2]);
            case "wanted": return x.wanted(a[0], a[1]);
            case "pattern": return x.pattern(a[0], a[1], a[2]);
            case "account": return x.account(a[0]);
            case "stock": return x.stock(a[0]);
            case "best": return x.best(a[0], yes);
            case "job": return x.job(a[0], a[1], a[2]);
            case "change": return x.change(a[0]);
            case "late": return x.late();
            case "planned": return x.planned(a[0]);
            case "room": return x.room(a[0]);
            case "age": return x.age();
            case "batches": return x.batches();
            case "sample": return x.sample(a[0], yes);
            case "suspect": return x.suspect(a[0]);
            case "held": return x.held();
            case "drift": return x.drift(a[0], a[1]);
            case "sheet": return x.sheet(a[0], a[1], a[2]);
            case "lose": return x.lose(a[0]);
            case "put": return x.put(a[0], a[1], a[2], a[3]);
            case "get": return x.get(a[0], a[1], a[2]);
            case "copy": return x.copy(a[0], a[1], a[2], a[3], a[4]);
            case "count": return x.count(a[0]);
            default: throw new IllegalStateException(name);
        }
    }

    /** Each call with its weight in the draw, then the least and greatest that each argument usually is. */
    private static final int[][] DRAW = {
        {2, 0, 2, 5, 80, 0, 3, 100, 9999}, {4, 0, 8, 1, 20}, {10, 0, 12}, {4, 0, 12}, {4, 0, 12},
        {4, 0, 12, -1, 6}, {4, 0, 8}, {8, 1, 4}, {4, 0, 5, 0, 100}, {40, 0, 12, 199, 1201}, {6, 0, 60, -1, 7},
        {6, 0, 8, 100, 3000, 0, 120}, {4, 0, 8, -1, 3}, {6, 0, 8, 0, 12000, -1, 4}, {4, -1, 7}, {2, 199, 1201},
        {3, 0, 12}, {2, 0, 8, 1, 50, 0, 100}, {2, -1, 21}, {1}, {2, -1, 7}, {3, 1000, 20000}, {4}, {4},
        {6, 0, 60}, {6, 0, 60}, {4}, {6, -1, 60, -1, 60}, {4, 0, 4, 0, 3, -1, 60}, {1, 0, 4},
        {10, 0, 3, 0, 3, -1, 60, -1000, 22000}, {6, 0, 3, 0, 3, -1, 60}, {6, 0, 4, -1, 60, 0, 4, -1, 60, -1, 40},
        {6, -1, 8}};
    private static final String[] NAMES = {
        "profile", "die", "warm", "cool", "nitride", "about", "ready", "pass", "law", "press", "bar", "order",
        "wanted", "pattern", "account", "stock", "best", "job", "change", "late", "planned", "room", "age",
        "batches", "sample", "suspect", "held", "drift", "sheet", "lose", "put", "get", "copy", "count"};

    private static int drawCall(Random random) {
        int total = 0;
        for (int[] d : DRAW) {
            total += d[0];
        }
        int at = random.nextInt(total);
        int k = 0;
        while (at >= DRAW[k][0]) {
            at -= DRAW[k][0];
            k++;
        }
        return k;
    }

    private static int[] drawArguments(Random random, int k, int wildness) {
        int[] a = new int[5];
        for (int n = 0; 2 * n + 2 < DRAW[k].length; n++) {
            int least = DRAW[k][2 * n + 1];
            a[n] = least + random.nextInt(DRAW[k][2 * n + 2] - least + 1);
            if (random.nextInt(100) < wildness) {
                a[n] = random.nextBoolean() ? EXTREMES[random.nextInt(EXTREMES.length)] : random.nextInt();
            }
        }
        return a;
    }

    /** Profiles and dies that a run begins with, so that most runs press. */
    private static void begin(Random random, BilletBars x, Model m) {
        for (int k = random.nextInt(6); k > 0; k--) {
            int[] p = {random.nextInt(3), 5 + random.nextInt(30), random.nextInt(4), 100 + random.nextInt(1000)};
            x.profile(p[0], p[1], p[2], p[3]);
            m.profile(p[0], p[1], p[2], p[3]);
            for (int d = random.nextInt(4); d > 0; d--) {
                int limit = 1 + random.nextInt(50);
                x.die(m.profiles.size() - 1, limit);
                m.die(m.profiles.size() - 1, limit);
            }
            for (int o = random.nextInt(4); o > 0; o--) {
                // few lengths, all of them alike in steps, so that patterns are often alike
                int length = 100 * (1 + random.nextInt(random.nextBoolean() ? 4 : 30));
                int wanted = random.nextInt(501);
                x.order(m.profiles.size() - 1, length, wanted);
                m.order(m.profiles.size() - 1, length, wanted);
            }
        }
        if (random.nextInt(3) == 0) {
            x.law(4, 0);
            m.law(4, 0);
        }
    }

    private static boolean agrees(int seed) {
        Random random = new Random(seed);
        BilletBars x = new BilletBars();
        Model m = new Model();
        begin(random, x, m);
        int wildness = seed % 3 == 0 ? 0 : seed % 3 == 1 ? 3 : 30;
        for (int n = 0; n < CALLS; n++) {
            int k = drawCall(random);
            int[] a = drawArguments(random, k, wildness);
            boolean yes = random.nextBoolean();
            int want = m.call(NAMES[k], a, yes);
            int got = call(x, NAMES[k], a, yes);
            if (got != want) {
                System.out.println("seed " + seed + ", call " + n + ": " + NAMES[k] + Arrays.toString(a) + yes
                    + " answered " + got + ", due is " + want);
                return false;
            }
            if (n % 16 == 0 && x.digest() != m.digest()) {
                System.out.println("seed " + seed + ", call " + n + ": unlike digests");
                return false;
            }
        }
        return true;
    }

    public static void main(String[] args) {
        Deadline.set(300);
        int wrong = 0;
        for (int seed = 0; seed < RUNS; seed++) {
            wrong += agrees(seed) ? 0 : 1;
        }
        System.out.println(wrong == 0 ? "the model agrees" : "the model disagrees in " + wrong + " runs");
        if (wrong != 0) {
            System.exit(1);
        }
    }
}
