import java.util.ArrayList;
import java.util.List;

/** Long runs of calls, the same in each test, beside a second and slower workshop that was written apart. */
final class ModelTest {
    private static final int RUNS = 400;
    private static final int CALLS = 512;
    private static final String[] THROWN = {
        "IndexOutOfBoundsException", "IllegalArgumentException", "IllegalStateException"};
    private static final int[] ODD = {-1, -2, Integer.MIN_VALUE, Integer.MAX_VALUE, 15, 16, 121, 251};

    private long seed;

    public static void main(String[] args) {
        Checks checks = new Checks();
        for (int run = 0; run < RUNS; run++) {
            checks.promise("run " + run);
            new ModelTest().run(run, checks);
        }
        checks.end();
    }

    private void run(int run, Checks checks) {
        seed = 7919L * run + 17;
        SewingFrames x = new SewingFrames();
        Model y = new Model();
        for (int call = 0; call < CALLS / 2; call++) {
            String name = pick();
            int a = argument(name, 0, y);
            int b = argument(name, 1, y);
            int c = argument(name, 2, y);
            String got = answer(x, name, a, b, c);
            String want = y.answer(name, a, b, c);
            String told = "call " + call + " " + name + "(" + a + ", " + b + ", " + c + ")";
            if (!got.equals(want)) {
                checks.tell(told + " answered " + got + ", due is " + want);
                return;
            }
            if (x.digest() != y.digest()) {
                checks.tell("digest() behind " + told);
                return;
            }
        }
    }

    /** The upper bits of a number that runs on by a fixed rule. */
    private int below(int bound) {
        seed = seed * 6364136223846793005L + 1442695040888963407L;
        return (int) ((seed >>> 33) % bound);
    }

    private String pick() {
        String[] often = {"order", "order", "order", "unpick", "sell", "sell", "hire", "hire", "seat", "seat",
            "string", "buy", "buy", "buy", "pass", "pass", "pass", "pass", "foresee", "until", "next",
            "advise", "advise", "worth", "mean", "told", "sewer", "frame", "count"};
        return often[below(often.length)];
    }

    private int argument(String name, int place, Model y) {
        if (below(40) == 0) {
            return ODD[below(ODD.length)];
        }
        switch (name + place) {
            case "order0": return below(12) == 0 ? below(27) : 1 + below(10);
            case "order1": return below(10);
            case "order2": return below(5);
            case "hire0": return below(12) == 0 ? 10 : 1 + below(9);
            case "seat0": case "sewer0": case "advise0": return below(y.sewers.size() + (below(8) == 0 ? 2 : 1));
            case "seat1": return below(5) - 1;
            case "sewer1": return below(3);
            case "string0": case "frame0": return below(3);
            case "string1": return 1 + below(7);
            case "frame1": return below(7);
            case "buy0": return below(8) == 0 ? below(4) : below(3);
            case "buy1": return 1 + below(below(4) == 0 ? 201 : 12);
            case "count0": return below(16);
            case "pass0": return 1 + below(below(8) == 0 ? 121 : 5);
            case "foresee0": return 1 + below(below(3) == 0 ? 121 : 12);
            case "foresee1": return below(16);
            case "told1": return below(12);
            default: return below(y.books.size() + 1);
        }
    }

    private static String answer(SewingFrames x, String name, int a, int b, int c) {
        try {
            switch (name) {
                case "order": return "" + x.order(a, b, c);
                case "unpick": return "" + x.unpick(a);
                case "sell": return "" + x.sell(a);
                case "told": return "" + x.told(a, b);
                case "hire": return "" + x.hire(a);
                case "seat": return "" + x.seat(a, b);
                case "sewer": return "" + x.sewer(a, b);
                case "string": return "" + x.string(a, b);
                case "frame": return "" + x.frame(a, b);
                case "buy": return "" + x.buy(a, b);
                case "count": return "" + x.count(a);
                case "pass": return "" + x.pass(a);
                case "foresee": return "" + x.foresee(a, b);
                case "until": return "" + x.until(a);
                case "next": return "" + x.next();
                case "advise": return "" + x.advise(a);
                case "worth": return "" + x.worth();
                default: return "" + x.mean();
            }
        } catch (RuntimeException e) {
            return "throws." + e.getClass().getSimpleName();
        }
    }

    /** The sewing of a book is a list of its stitches still to come, true for a kettle stitch. */
    private static final class ModelBook {
        int signatures, sheets, edges, gilt, stage, dry, cords, loose;
        int frame = -1;
        List<Boolean> coming = new ArrayList<>();
        List<Boolean> past = new ArrayList<>();

        ModelBook copy() {
            ModelBook b = new ModelBook();
            b.signatures = signatures; b.sheets = sheets; b.edges = edges; b.gilt = gilt; b.stage = stage;
            b.dry = dry; b.cords = cords; b.loose = loose; b.frame = frame;
            b.coming = new ArrayList<>(coming);
            b.past = new ArrayList<>(past);
            return b;
        }

        int worth() {
            int w = signatures * 4 + gilt * 6 - loose * 3 + (stage == 0 ? 0 : cords + cords);
            return w < 1 ? 1 : w;
        }

        int kettles() {
            int n = 0;
            for (boolean k : past) {
                n += k ? 1 : 0;
            }
            return n;
        }

        int[] told() {
            int whole = kettles();
            int part = past.size() - (past.lastIndexOf(true) + 1);
            return new int[] {signatures, sheets, edges, stage, frame, whole, part, loose, dry, gilt, worth()};
        }
    }

    private static final class Model {
        List<ModelBook> books = new ArrayList<>();
        List<int[]> sewers = new ArrayList<>();
        int[] cords = {3, 3, 3};
        int[] sewn = {0, 0, 0};
        int hour, loose;
        int coins = 30;
        int[] stores = {300, 12, 20};

        Model copy() {
            Model m = new Model();
            for (ModelBook b : books) {
                m.books.add(b.copy());
            }
            for (int[] s : sewers) {
                m.sewers.add(s.clone());
            }
            m.cords = cords.clone();
            m.sewn = sewn.clone();
            m.stores = stores.clone();
            m.hour = hour;
            m.loose = loose;
            m.coins = coins;
            return m;
        }

        int on(int frame) {
            for (int i = 0; i < books.size(); i++) {
                if (books.get(i).stage == 1 && books.get(i).frame == frame) {
                    return i;
                }
            }
            return -1;
        }

        List<Integer> sitters(int frame) {
            List<Integer> at = new ArrayList<>();
            for (int i = 0; i < sewers.size(); i++) {
                if (sewers.get(i)[1] == frame) {
                    at.add(i);
                }
            }
            return at;
        }

        int rate(int frame) {
            List<Integer> at = sitters(frame);
            if (at.isEmpty()) {
                return 0;
            }
            int first = sewers.get(at.get(0))[0];
            return at.size() == 1 ? first : Math.max(first + sewers.get(at.get(1))[0] - 3, 1);
        }

        int[] frameTold(int frame) {
            int book = on(frame);
            return new int[] {cords[frame], book, sitters(frame).size(), rate(frame),
                book < 0 ? 0 : books.get(book).coming.size(), sewn[frame]};
        }

        int[] counts() {
            int[] n = new int[15];
            n[0] = hour;
            n[1] = books.size();
            for (ModelBook b : books) {
                n[2 + b.stage]++;
            }
            n[9] = coins;
            System.arraycopy(stores, 0, n, 10, 3);
            n[13] = sewn[0] + sewn[1] + sewn[2];
            n[14] = loose;
            return n;
        }

        int hour() {
            int done = 0;
            for (ModelBook b : books) {
                if (b.stage == 4) {
                    int leaves = 1 + b.signatures * b.sheets / 16;
                    if (stores[2] >= leaves) {
                        stores[2] -= leaves;
                        if (++b.gilt == b.edges) {
                            b.stage = 5;
                            done++;
                        }
                    }
                    break;
                }
            }
            for (ModelBook b : books) {
                if (b.stage == 3 && stores[1] > 1) {
                    stores[1] -= 2;
                    b.stage = b.edges > 0 ? 4 : 5;
                    done += b.edges > 0 ? 0 : 1;
                }
            }
            for (ModelBook b : books) {
                if (b.stage == 2 && --b.dry == 0) {
                    b.stage = 3;
                }
            }
            for (int frame = 0; frame < 3; frame++) {
                sew(frame);
            }
            for (int frame = 0; frame < 3; frame++) {
                mount(frame);
            }
            hour++;
            return done;
        }

        void sew(int frame) {
            int number = on(frame);
            if (number < 0) {
                return;
            }
            ModelBook b = books.get(number);
            int inHour = 0;
            while (inHour < rate(frame) && stores[0] > 0 && !b.coming.isEmpty()) {
                boolean kettle = b.coming.remove(0);
                b.past.add(kettle);
                inHour++;
                stores[0]--;
                sewn[frame]++;
                if (kettle && inHour > 9) {
                    b.loose++;
                    loose++;
                }
            }
            if (b.coming.isEmpty()) {
                b.stage = 2;
                b.frame = -1;
                b.dry = 2 + b.signatures * b.sheets / 8;
            }
        }

        void mount(int frame) {
            if (on(frame) >= 0) {
                return;
            }
            for (ModelBook b : books) {
                if (b.stage == 0) {
                    b.stage = 1;
                    b.frame = frame;
                    b.cords = cords[frame];
                    for (int s = 1; s <= b.signatures; s++) {
                        int stitches = cords[frame] + 2 + (s == 1 ? 2 : 0) + (s == b.signatures ? 2 : 0);
                        for (int i = 1; i <= stitches; i++) {
                            b.coming.add(i == stitches);
                        }
                    }
                    return;
                }
            }
        }

        int until(int book, int most) {
            Model m = copy();
            for (int h = 0; h <= most; h++) {
                if (m.books.get(book).stage > 4) {
                    return h;
                }
                m.hour();
            }
            return -1;
        }

        int next() {
            int best = -1;
            int soonest = 251;
            for (int i = 0; i < books.size(); i++) {
                int h = books.get(i).stage > 4 ? -1 : until(i, Math.min(soonest, 250));
                if (h >= 0 && h < soonest) {
                    best = i;
                    soonest = h;
                }
            }
            return best;
        }

        int advise(int sewer) {
            int best = -1;
            int most = 0;
            for (int frame = 2; frame >= 0; frame--) {
                List<Integer> others = sitters(frame);
                others.remove((Integer) sewer);
                if (others.size() < 2) {
                    Model m = copy();
                    m.sewers.get(sewer)[1] = frame;
                    for (int h = 0; h < 12; h++) {
                        m.hour();
                    }
                    if (best < 0 || m.counts()[13] >= most) {
                        best = frame;
                        most = m.counts()[13];
                    }
                }
            }
            return best;
        }

        long digest() {
            List<int[]> rows = new ArrayList<>();
            rows.add(counts());
            for (int frame = 0; frame < 3; frame++) {
                rows.add(frameTold(frame));
            }
            rows.addAll(sewers);
            for (ModelBook b : books) {
                rows.add(b.told());
            }
            long d = 1367;
            for (int[] row : rows) {
                for (int number : row) {
                    d = d * 31 + number;
                }
            }
            return d;
        }

        static String index() {
            return "throws." + THROWN[0];
        }

        static String argument() {
            return "throws." + THROWN[1];
        }

        static String state() {
            return "throws." + THROWN[2];
        }

        static boolean in(int a, int low, int high) {
            return low <= a && a <= high;
        }

        static String at(int[] row, int what) {
            return in(what, 0, row.length - 1) ? "" + row[what] : index();
        }

        boolean hasBook(int a) {
            return in(a, 0, books.size() - 1);
        }

        boolean hasSewer(int a) {
            return in(a, 0, sewers.size() - 1);
        }

        String answer(String name, int a, int b, int c) {
            switch (name) {
                case "order": return order(a, b, c);
                case "unpick": return hasBook(a) ? unpick(books.get(a)) : index();
                case "sell": return hasBook(a) ? sell(books.get(a)) : index();
                case "told": return hasBook(a) ? at(books.get(a).told(), b) : index();
                case "hire": return hire(a);
                case "seat": return hasSewer(a) && in(b, -1, 2) ? seat(a, b) : index();
                case "sewer": return hasSewer(a) ? at(sewers.get(a), b) : index();
                case "string": return in(a, 0, 2) ? string(a, b) : index();
                case "frame": return in(a, 0, 2) ? at(frameTold(a), b) : index();
                case "buy": return in(a, 0, 2) ? buy(a, b) : index();
                case "count": return at(counts(), a);
                case "pass": return in(a, 1, 120) ? "" + passed(a) : argument();
                case "foresee": return foresee(a, b);
                case "until": return hasBook(a) ? "" + until(a, 250) : index();
                case "next": return "" + next();
                case "advise": return hasSewer(a) ? "" + advise(a) : index();
                case "worth": return "" + worth();
                default: return "" + mean();
            }
        }

        String order(int a, int b, int c) {
            if (!in(a, 1, 24) || !in(b, 1, 8) || !in(c, 0, 3)) {
                return argument();
            }
            if (books.size() == 15) {
                return state();
            }
            ModelBook book = new ModelBook();
            book.signatures = a;
            book.sheets = b;
            book.edges = c;
            books.add(book);
            return "" + (books.size() - 1);
        }

        String unpick(ModelBook b) {
            if (b.stage != 1) {
                return state();
            }
            int undone = b.past.size();
            b.past.clear();
            b.coming.clear();
            b.loose = 0;
            b.frame = -1;
            b.stage = 0;
            return "" + undone;
        }

        String sell(ModelBook b) {
            if (b.stage != 5) {
                return state();
            }
            coins += b.worth();
            b.stage = 6;
            return "" + coins;
        }

        String hire(int a) {
            if (!in(a, 1, 9)) {
                return argument();
            }
            if (sewers.size() == 5) {
                return state();
            }
            sewers.add(new int[] {a, -1});
            return "" + (sewers.size() - 1);
        }

        String seat(int a, int b) {
            List<Integer> others = sitters(b);
            others.remove((Integer) a);
            if (b >= 0 && others.size() == 2) {
                return state();
            }
            int before = sewers.get(a)[1];
            sewers.get(a)[1] = b;
            return "" + before;
        }

        String string(int a, int b) {
            if (!in(b, 2, 6)) {
                return argument();
            }
            if (on(a) >= 0) {
                return state();
            }
            int before = cords[a];
            cords[a] = b;
            return "" + before;
        }

        String buy(int a, int b) {
            if (!in(b, 1, 200)) {
                return argument();
            }
            int price = a == 1 ? 3 * b : a == 2 ? 2 * b : b / 5 + (b % 5 == 0 ? 0 : 1);
            if (coins < price) {
                return state();
            }
            coins -= price;
            stores[a] += b;
            return "" + stores[a];
        }

        int passed(int hours) {
            int done = 0;
            for (int h = 0; h < hours; h++) {
                done += hour();
            }
            return done;
        }

        String foresee(int a, int b) {
            if (!in(a, 1, 120)) {
                return argument();
            }
            if (!in(b, 2, 7) && !in(b, 10, 14)) {
                return index();
            }
            Model m = copy();
            m.passed(a);
            return "" + m.counts()[b];
        }

        int worth() {
            int all = 0;
            for (ModelBook b : books) {
                all += b.stage == 5 ? b.worth() : 0;
            }
            return all;
        }

        double mean() {
            double all = 0;
            double n = 0;
            for (ModelBook b : books) {
                if (b.stage < 6) {
                    all += b.worth();
                    n++;
                }
            }
            return n == 0 ? 0 : all / n;
        }
    }
}
