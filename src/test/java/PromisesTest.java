/** Each promise of the document, with answers that were worked out by hand. */
final class PromisesTest {
    private static final Class<?> INDEX = IndexOutOfBoundsException.class;
    private static final Class<?> ARGUMENT = IllegalArgumentException.class;
    private static final Class<?> STATE = IllegalStateException.class;
    private static final int LOW = Integer.MIN_VALUE;
    private static final int HIGH = Integer.MAX_VALUE;

    private final Checks checks = new Checks();

    public static void main(String[] args) {
        PromisesTest test = new PromisesTest();
        test.newObject();
        test.order();
        test.unpick();
        test.unpickLoose();
        test.sell();
        test.told();
        test.toldOfLastSignature();
        test.hire();
        test.seat();
        test.sewer();
        test.string();
        test.frame();
        test.frameSpeed();
        test.buy();
        test.count();
        test.pass();
        test.passKettleStitches();
        test.passGilding();
        test.passGildingStops();
        test.passBoards();
        test.passDrying();
        test.passThread();
        test.passMounting();
        test.foresee();
        test.until();
        test.untilIsAtMost250();
        test.next();
        test.nextIsAtMost250();
        test.advise();
        test.adviseLooks12HoursAhead();
        test.worth();
        test.mean();
        test.digest();
        test.checks.end();
    }

    private void dueTold(SewingFrames x, int book, int... want) {
        for (int what = 0; what < want.length; what++) {
            checks.due("told(" + book + ", " + what + ")", x.told(book, what), want[what]);
        }
    }

    private void dueFrame(SewingFrames x, int frame, int... want) {
        for (int what = 0; what < want.length; what++) {
            checks.due("frame(" + frame + ", " + what + ")", x.frame(frame, what), want[what]);
        }
    }

    private void dueCount(SewingFrames x, int... want) {
        for (int what = 0; what < want.length; what++) {
            checks.due("count(" + what + ")", x.count(what), want[what]);
        }
    }

    private void newObject() {
        checks.promise("1 a new object");
        SewingFrames x = new SewingFrames();
        dueCount(x, 0, 0, 0, 0, 0, 0, 0, 0, 0, 30, 300, 12, 20, 0, 0);
        for (int frame = 0; frame < 3; frame++) {
            dueFrame(x, frame, 3, -1, 0, 0, 0, 0);
        }
        checks.dueThrow("told(0, 0)", x, INDEX, () -> x.told(0, 0));
        checks.dueThrow("sewer(0, 0)", x, INDEX, () -> x.sewer(0, 0));
        SewingFrames y = new SewingFrames();
        y.order(1, 1, 0);
        y.pass(3);
        checks.due("another object's hour", x.count(0), 0);
        checks.due("another object's books", x.count(1), 0);
    }

    private void order() {
        checks.promise("2 order");
        SewingFrames x = new SewingFrames();
        checks.due("order(1, 1, 0)", x.order(1, 1, 0), 0);
        checks.due("order(24, 8, 3)", x.order(24, 8, 3), 1);
        dueTold(x, 0, 1, 1, 0, 0, -1, 0, 0, 0, 0, 0, 4);
        dueTold(x, 1, 24, 8, 3, 0, -1, 0, 0, 0, 0, 0, 96);
        int[][] wrong = {{0, 1, 0}, {25, 1, 0}, {-1, 1, 0}, {LOW, 1, 0}, {HIGH, 1, 0}, {1, 0, 0},
            {1, 9, 0}, {1, LOW, 0}, {1, HIGH, 0}, {1, 1, -1}, {1, 1, 4}, {1, 1, LOW}, {1, 1, HIGH}};
        for (int[] w : wrong) {
            checks.dueThrow("order of a wrong book", x, ARGUMENT, () -> x.order(w[0], w[1], w[2]));
        }
        for (int book = 2; book < 15; book++) {
            checks.due("order(5, 4, 2)", x.order(5, 4, 2), book);
        }
        checks.dueThrow("the 16th order", x, STATE, () -> x.order(1, 1, 0));
        checks.dueThrow("a wrong 16th order", x, ARGUMENT, () -> x.order(1, 1, 4));
        checks.due("count(1)", x.count(1), 15);
        checks.due("count(2)", x.count(2), 15);
    }

    private void unpick() {
        checks.promise("3 unpick");
        SewingFrames x = Workshops.withSewer(5);
        x.order(4, 2, 1);
        checks.dueThrow("unpick of one that waits", x, STATE, () -> x.unpick(0));
        x.pass(1);
        checks.due("unpick without stitches", x.unpick(0), 0);
        checks.due("frame(0, 1)", x.frame(0, 1), -1);
        x.pass(3);
        dueTold(x, 0, 4, 2, 1, 1, 0, 1, 3, 0, 0, 0, 22);
        checks.due("unpick(0)", x.unpick(0), 10);
        dueTold(x, 0, 4, 2, 1, 0, -1, 0, 0, 0, 0, 0, 16);
        dueFrame(x, 0, 3, -1, 1, 5, 0, 10);
        dueCount(x, 4, 1, 1, 0, 0, 0, 0, 0, 0, 30, 290, 12, 20, 10, 0);
        x.string(0, 6);
        x.pass(1);
        checks.due("worth with 6 cords", x.told(0, 10), 28);
        checks.due("stitches with 6 cords", x.frame(0, 4), 36);
        x.pass(8);
        checks.due("told(0, 3) of a sewn one", x.told(0, 3), 2);
        checks.dueThrow("unpick of one that dries", x, STATE, () -> x.unpick(0));
        x.pass(10);
        checks.due("told(0, 3) of one that is done", x.told(0, 3), 5);
        checks.dueThrow("unpick of one that is done", x, STATE, () -> x.unpick(0));
        checks.dueThrow("unpick(1)", x, INDEX, () -> x.unpick(1));
        checks.dueThrow("unpick(-1)", x, INDEX, () -> x.unpick(-1));
        checks.dueThrow("unpick(15)", x, INDEX, () -> x.unpick(15));
        checks.dueThrow("unpick(LOW)", x, INDEX, () -> x.unpick(LOW));
        checks.dueThrow("unpick(HIGH)", x, INDEX, () -> x.unpick(HIGH));
    }

    private void unpickLoose() {
        checks.promise("3 unpick");
        SewingFrames x = Workshops.withPair(9, 9);
        x.order(4, 2, 1);
        x.order(1, 1, 0);
        x.order(2, 2, 2);
        x.pass(2);
        dueTold(x, 0, 4, 2, 1, 1, 0, 2, 3, 1, 0, 0, 19);
        checks.due("unpick(2)", x.unpick(2), 0);
        checks.due("frame(0, 1)", x.frame(0, 1), 0);
        checks.due("frame(2, 1)", x.frame(2, 1), -1);
        checks.due("unpick(0)", x.unpick(0), 15);
        checks.due("told(0, 7)", x.told(0, 7), 0);
        checks.due("count(13)", x.count(13), 15);
        checks.due("count(14)", x.count(14), 1);
        x.pass(1);
        checks.due("frame(0, 1) after", x.frame(0, 1), 0);
        checks.due("frame(1, 1) after", x.frame(1, 1), 1);
        checks.due("frame(2, 1) after", x.frame(2, 1), 2);
        dueTold(x, 0, 4, 2, 1, 1, 0, 0, 0, 0, 0, 0, 22);
    }

    private void sell() {
        checks.promise("4 sell");
        SewingFrames x = Workshops.withSewer(9);
        x.order(1, 1, 0);
        x.order(1, 1, 1);
        checks.dueThrow("sell of one that waits", x, STATE, () -> x.sell(0));
        x.pass(4);
        checks.dueThrow("sell of one that is dry", x, STATE, () -> x.sell(0));
        x.pass(1);
        checks.due("sell(0)", x.sell(0), 40);
        checks.due("count(9)", x.count(9), 40);
        checks.due("count(8)", x.count(8), 1);
        checks.due("count(7)", x.count(7), 0);
        dueTold(x, 0, 1, 1, 0, 6, -1, 1, 0, 0, 0, 0, 10);
        checks.dueThrow("sell of one that is sold", x, STATE, () -> x.sell(0));
        checks.dueThrow("sell of one on a frame", x, STATE, () -> x.sell(1));
        x.seat(0, 1);
        x.pass(4);
        checks.due("told(1, 3)", x.told(1, 3), 4);
        checks.dueThrow("sell of one that is bound", x, STATE, () -> x.sell(1));
        x.pass(1);
        checks.due("sell(1)", x.sell(1), 56);
        checks.dueThrow("sell(2)", x, INDEX, () -> x.sell(2));
        checks.dueThrow("sell(-1)", x, INDEX, () -> x.sell(-1));
        checks.dueThrow("sell(LOW)", x, INDEX, () -> x.sell(LOW));
        checks.dueThrow("sell(HIGH)", x, INDEX, () -> x.sell(HIGH));
    }

    private void told() {
        checks.promise("5 told");
        SewingFrames x = Workshops.withSewer(9);
        x.string(0, 2);
        x.order(3, 5, 2);
        dueTold(x, 0, 3, 5, 2, 0, -1, 0, 0, 0, 0, 0, 12);
        x.pass(1);
        dueTold(x, 0, 3, 5, 2, 1, 0, 0, 0, 0, 0, 0, 16);
        x.pass(1);
        dueTold(x, 0, 3, 5, 2, 1, 0, 1, 3, 0, 0, 0, 16);
        x.pass(1);
        dueTold(x, 0, 3, 5, 2, 2, -1, 3, 0, 0, 3, 0, 16);
        x.string(0, 6);
        x.pass(1);
        dueTold(x, 0, 3, 5, 2, 2, -1, 3, 0, 0, 2, 0, 16);
        x.pass(2);
        dueTold(x, 0, 3, 5, 2, 3, -1, 3, 0, 0, 0, 0, 16);
        x.pass(1);
        dueTold(x, 0, 3, 5, 2, 4, -1, 3, 0, 0, 0, 0, 16);
        x.pass(1);
        dueTold(x, 0, 3, 5, 2, 4, -1, 3, 0, 0, 0, 1, 22);
        x.pass(1);
        dueTold(x, 0, 3, 5, 2, 5, -1, 3, 0, 0, 0, 2, 28);
        x.sell(0);
        dueTold(x, 0, 3, 5, 2, 6, -1, 3, 0, 0, 0, 2, 28);
        int[][] wrong = {{1, 0}, {-1, 0}, {15, 0}, {LOW, 0}, {HIGH, 0}, {0, -1}, {0, 11}, {0, LOW}, {0, HIGH}};
        for (int[] w : wrong) {
            checks.dueThrow("told(" + w[0] + ", " + w[1] + ")", x, INDEX, () -> x.told(w[0], w[1]));
        }
    }

    private void toldOfLastSignature() {
        checks.promise("5 told");
        SewingFrames x = Workshops.withSewer(1);
        x.order(2, 1, 0);
        x.pass(1);
        // 7 stitches for the first signature, 7 for the last one
        for (int stitch = 1; stitch <= 13; stitch++) {
            x.pass(1);
            checks.due("told(0, 5) behind " + stitch, x.told(0, 5), stitch / 7);
            checks.due("told(0, 6) behind " + stitch, x.told(0, 6), stitch % 7);
            checks.due("frame(0, 4) behind " + stitch, x.frame(0, 4), 14 - stitch);
        }
        x.pass(1);
        checks.due("told(0, 3)", x.told(0, 3), 2);
        checks.due("told(0, 5)", x.told(0, 5), 2);
    }

    private void hire() {
        checks.promise("6 hire");
        SewingFrames x = new SewingFrames();
        int[] wrong = {0, 10, -1, LOW, HIGH};
        for (int w : wrong) {
            checks.dueThrow("hire(" + w + ")", x, ARGUMENT, () -> x.hire(w));
        }
        checks.due("hire(1)", x.hire(1), 0);
        checks.due("hire(9)", x.hire(9), 1);
        checks.due("hire(4)", x.hire(4), 2);
        checks.due("hire(4)", x.hire(4), 3);
        checks.due("hire(6)", x.hire(6), 4);
        checks.dueThrow("the 6th hire", x, STATE, () -> x.hire(1));
        checks.dueThrow("a wrong 6th hire", x, ARGUMENT, () -> x.hire(10));
        checks.due("sewer(1, 0)", x.sewer(1, 0), 9);
        checks.due("sewer(4, 0)", x.sewer(4, 0), 6);
        checks.due("sewer(4, 1)", x.sewer(4, 1), -1);
    }

    private void seat() {
        checks.promise("7 seat");
        SewingFrames x = new SewingFrames();
        x.hire(3);
        x.hire(4);
        x.hire(5);
        checks.due("seat(0, 2)", x.seat(0, 2), -1);
        checks.due("seat(0, 1)", x.seat(0, 1), 2);
        checks.due("seat(1, 1)", x.seat(1, 1), -1);
        checks.due("seat at its own frame", x.seat(1, 1), 1);
        checks.dueThrow("seat of a third", x, STATE, () -> x.seat(2, 1));
        checks.due("seat(2, -1)", x.seat(2, -1), -1);
        checks.due("seat(0, -1)", x.seat(0, -1), 1);
        checks.due("sewer(0, 1)", x.sewer(0, 1), -1);
        checks.due("seat(2, 1)", x.seat(2, 1), -1);
        checks.due("sitters", x.frame(1, 2), 2);
        checks.dueThrow("seat of a third again", x, STATE, () -> x.seat(0, 1));
        int[][] wrong = {{3, 0}, {-1, 0}, {5, 0}, {LOW, 0}, {HIGH, 0}, {3, 1}, {0, 3}, {0, -2}, {0, LOW}, {0, HIGH}};
        for (int[] w : wrong) {
            checks.dueThrow("seat(" + w[0] + ", " + w[1] + ")", x, INDEX, () -> x.seat(w[0], w[1]));
        }
    }

    private void sewer() {
        checks.promise("8 sewer");
        SewingFrames x = new SewingFrames();
        x.hire(7);
        x.hire(2);
        x.seat(1, 2);
        checks.due("sewer(0, 0)", x.sewer(0, 0), 7);
        checks.due("sewer(0, 1)", x.sewer(0, 1), -1);
        checks.due("sewer(1, 0)", x.sewer(1, 0), 2);
        checks.due("sewer(1, 1)", x.sewer(1, 1), 2);
        int[][] wrong = {{2, 0}, {-1, 0}, {LOW, 0}, {HIGH, 0}, {0, -1}, {0, 2}, {0, LOW}, {0, HIGH}};
        for (int[] w : wrong) {
            checks.dueThrow("sewer(" + w[0] + ", " + w[1] + ")", x, INDEX, () -> x.sewer(w[0], w[1]));
        }
    }

    private void string() {
        checks.promise("9 string");
        SewingFrames x = new SewingFrames();
        checks.due("string(0, 2)", x.string(0, 2), 3);
        checks.due("string(0, 6)", x.string(0, 6), 2);
        checks.due("frame(0, 0)", x.frame(0, 0), 6);
        checks.due("string(2, 3)", x.string(2, 3), 3);
        x.order(1, 1, 0);
        x.pass(1);
        checks.dueThrow("string with a book on it", x, STATE, () -> x.string(0, 4));
        checks.dueThrow("wrong cords with a book on it", x, ARGUMENT, () -> x.string(0, 7));
        int[] cords = {1, 7, 0, -1, LOW, HIGH};
        for (int c : cords) {
            checks.dueThrow("string(1, " + c + ")", x, ARGUMENT, () -> x.string(1, c));
        }
        int[] frames = {3, -1, LOW, HIGH};
        for (int f : frames) {
            checks.dueThrow("string(" + f + ", 3)", x, INDEX, () -> x.string(f, 3));
            checks.dueThrow("string(" + f + ", 1)", x, INDEX, () -> x.string(f, 1));
        }
        x.unpick(0);
        checks.due("string(0, 4)", x.string(0, 4), 6);
    }

    private void frame() {
        checks.promise("10 frame");
        SewingFrames x = Workshops.withSewer(5);
        x.string(1, 5);
        x.order(3, 1, 0);
        x.order(1, 1, 0);
        x.pass(1);
        dueFrame(x, 0, 3, 0, 1, 5, 19, 0);
        dueFrame(x, 1, 5, 1, 0, 0, 11, 0);
        dueFrame(x, 2, 3, -1, 0, 0, 0, 0);
        x.pass(2);
        dueFrame(x, 0, 3, 0, 1, 5, 9, 10);
        x.pass(2);
        dueFrame(x, 0, 3, -1, 1, 5, 0, 19);
        int[][] wrong = {{3, 0}, {-1, 0}, {LOW, 0}, {HIGH, 0}, {0, -1}, {0, 6}, {0, LOW}, {0, HIGH}};
        for (int[] w : wrong) {
            checks.dueThrow("frame(" + w[0] + ", " + w[1] + ")", x, INDEX, () -> x.frame(w[0], w[1]));
        }
    }

    private void frameSpeed() {
        checks.promise("10 frame");
        checks.due("1 alone", Workshops.withSewer(1).frame(0, 3), 1);
        checks.due("9 alone", Workshops.withSewer(9).frame(0, 3), 9);
        checks.due("1 and 1", Workshops.withPair(1, 1).frame(0, 3), 1);
        checks.due("1 and 2", Workshops.withPair(1, 2).frame(0, 3), 1);
        checks.due("2 and 2", Workshops.withPair(2, 2).frame(0, 3), 1);
        checks.due("2 and 3", Workshops.withPair(2, 3).frame(0, 3), 2);
        checks.due("9 and 9", Workshops.withPair(9, 9).frame(0, 3), 15);
        SewingFrames x = Workshops.withPair(9, 4);
        x.seat(0, 1);
        checks.due("4 left alone", x.frame(0, 3), 4);
        checks.due("9 elsewhere", x.frame(1, 3), 9);
    }

    private void buy() {
        checks.promise("11 buy");
        SewingFrames x = new SewingFrames();
        checks.due("buy(0, 1)", x.buy(0, 1), 301);
        checks.due("coins", x.count(9), 29);
        checks.due("buy(0, 5)", x.buy(0, 5), 306);
        checks.due("coins", x.count(9), 28);
        checks.due("buy(0, 6)", x.buy(0, 6), 312);
        checks.due("coins", x.count(9), 26);
        checks.due("buy(1, 2)", x.buy(1, 2), 14);
        checks.due("coins", x.count(9), 20);
        checks.due("buy(2, 4)", x.buy(2, 4), 24);
        checks.due("coins", x.count(9), 12);
        checks.dueThrow("boards for 15", x, STATE, () -> x.buy(1, 5));
        checks.dueThrow("leaves for 14", x, STATE, () -> x.buy(2, 7));
        checks.dueThrow("ells for 13", x, STATE, () -> x.buy(0, 61));
        checks.dueThrow("200 boards", x, STATE, () -> x.buy(1, 200));
        int[] many = {0, 201, -1, LOW, HIGH};
        for (int m : many) {
            checks.dueThrow("buy(0, " + m + ")", x, ARGUMENT, () -> x.buy(0, m));
            checks.dueThrow("buy(1, " + m + ")", x, ARGUMENT, () -> x.buy(1, m));
        }
        int[] what = {3, -1, LOW, HIGH};
        for (int w : what) {
            checks.dueThrow("buy(" + w + ", 1)", x, INDEX, () -> x.buy(w, 1));
            checks.dueThrow("buy(" + w + ", 0)", x, INDEX, () -> x.buy(w, 0));
        }
        checks.due("buy(0, 60) for all coins", x.buy(0, 60), 372);
        checks.due("coins", x.count(9), 0);
        checks.dueThrow("one ell without coins", x, STATE, () -> x.buy(0, 1));
        checks.due("200 ells for 40", richer().buy(0, 200), 491);
    }

    /** Has sold a book: 40 coins, 291 ells. */
    private static SewingFrames richer() {
        SewingFrames x = Workshops.withSewer(9);
        x.order(1, 1, 0);
        x.pass(5);
        x.sell(0);
        return x;
    }

    private void count() {
        checks.promise("12 count");
        SewingFrames x = Workshops.withPair(9, 9);
        x.hire(9);
        x.seat(2, 1);
        x.string(0, 4);
        x.order(1, 1, 0);
        x.order(1, 1, 2);
        x.order(4, 1, 0);
        x.order(1, 8, 0);
        x.order(1, 1, 0);
        dueCount(x, 0, 5, 5, 0, 0, 0, 0, 0, 0, 30, 300, 12, 20, 0, 0);
        x.pass(1);
        dueCount(x, 1, 5, 2, 3, 0, 0, 0, 0, 0, 30, 300, 12, 20, 0, 0);
        x.pass(1);
        dueCount(x, 2, 5, 0, 3, 2, 0, 0, 0, 0, 30, 281, 12, 20, 19, 1);
        x.pass(1);
        dueCount(x, 3, 5, 0, 1, 4, 0, 0, 0, 0, 30, 262, 12, 20, 38, 2);
        x.pass(1);
        dueCount(x, 4, 5, 0, 1, 2, 2, 0, 0, 0, 30, 262, 12, 20, 38, 2);
        x.pass(1);
        dueCount(x, 5, 5, 0, 1, 1, 1, 1, 1, 0, 30, 262, 8, 20, 38, 2);
        x.sell(0);
        dueCount(x, 5, 5, 0, 1, 1, 1, 1, 0, 1, 39, 262, 8, 20, 38, 2);
        x.pass(1);
        dueCount(x, 6, 5, 0, 1, 0, 1, 1, 1, 1, 39, 262, 6, 19, 38, 2);
        int[] wrong = {-1, 15, LOW, HIGH};
        for (int w : wrong) {
            checks.dueThrow("count(" + w + ")", x, INDEX, () -> x.count(w));
        }
    }

    private void pass() {
        checks.promise("13 pass");
        SewingFrames x = Workshops.withSewer(9);
        x.hire(9);
        x.seat(1, 1);
        x.order(1, 1, 0);
        x.order(1, 1, 0);
        checks.due("pass(4)", x.pass(4), 0);
        checks.due("pass(1) with two", x.pass(1), 2);
        checks.due("pass(120)", x.pass(120), 0);
        checks.due("the hour", x.count(0), 125);
        x.order(1, 1, 3);
        checks.due("pass(7)", x.pass(7), 0);
        checks.due("pass(1) with one", x.pass(1), 1);
        int[] wrong = {0, 121, -1, LOW, HIGH};
        for (int w : wrong) {
            checks.dueThrow("pass(" + w + ")", x, ARGUMENT, () -> x.pass(w));
        }
        checks.due("pass over hours and sales", soldAndDone(), 1);
    }

    private static int soldAndDone() {
        SewingFrames x = richer();
        x.order(1, 1, 0);
        return x.pass(120);
    }

    private void passKettleStitches() {
        checks.promise("13 pass: sewing");
        // the 10th stitch of the hour is the only kettle stitch of the book
        SewingFrames x = Workshops.withPair(9, 4);
        x.string(0, 4);
        x.order(1, 1, 0);
        x.pass(2);
        dueTold(x, 0, 1, 1, 0, 2, -1, 1, 0, 1, 2, 0, 9);
        checks.due("count(14)", x.count(14), 1);
        // the 9th stitch is not loose
        SewingFrames y = Workshops.withPair(9, 4);
        y.order(1, 1, 0);
        y.pass(2);
        dueTold(y, 0, 1, 1, 0, 2, -1, 1, 0, 0, 2, 0, 10);
        // kettle stitches at 7, 12, 17, 22, ..: with 15 an hour the 12th, and of the next hour that of 27, its 12th
        SewingFrames z = Workshops.withPair(9, 9);
        z.order(24, 1, 0);
        z.pass(2);
        checks.due("loose in the first hour", z.told(0, 7), 1);
        z.pass(1);
        checks.due("loose in two hours", z.told(0, 7), 2);
        checks.due("sewn whole in two hours", z.told(0, 5), 5);
        checks.due("worth", z.told(0, 10), 96 + 6 - 6);
        // a frame whose book is sewn takes no stitch of the next book in this hour
        SewingFrames v = Workshops.withPair(9, 9);
        v.order(1, 1, 0);
        v.order(1, 1, 0);
        v.order(1, 1, 0);
        v.order(1, 1, 0);
        v.pass(2);
        checks.due("stitches of the hour", v.count(13), 9);
        dueFrame(v, 0, 3, 3, 2, 15, 9, 9);
    }

    private void passGilding() {
        checks.promise("13 pass: gilding");
        // 15 thick takes 1 leaf, 16 thick takes 2
        SewingFrames x = Workshops.withSewer(9);
        x.hire(9);
        x.seat(1, 1);
        x.order(3, 5, 1);
        x.order(2, 8, 1);
        // 19 and 14 stitches: sewn in the hours 4 and 3, dry in 7 and 7, bound in 8
        x.pass(8);
        checks.due("bound", x.count(6), 2);
        checks.due("gold", x.count(12), 20);
        checks.due("gilding of the first", x.pass(1), 1);
        checks.due("gold", x.count(12), 19);
        checks.due("the second is left", x.told(1, 9), 0);
        checks.due("gilding of the second", x.pass(1), 1);
        checks.due("gold", x.count(12), 17);
        checks.due("worth", x.told(1, 10), 8 + 6 + 6);
    }

    private void passGildingStops() {
        checks.promise("13 pass: gilding");
        // 13 leaves an edge: the second edge finds 7
        SewingFrames x = Workshops.withSewer(9);
        x.hire(9);
        x.seat(1, 1);
        x.order(24, 8, 2);
        x.order(1, 1, 1);
        // 124 stitches: sewn in hour 15, 26 hours to dry: dry in 41, bound in 42
        x.pass(42);
        checks.due("book 1 is done", x.told(1, 3), 5);
        checks.due("book 0 is bound", x.told(0, 3), 4);
        x.order(1, 1, 1);
        x.seat(1, 0);
        x.pass(20);
        checks.due("gilt once", x.told(0, 9), 1);
        checks.due("gold", x.count(12), 6);
        checks.due("book 0 stays bound", x.told(0, 3), 4);
        checks.due("book 2 is bound behind it", x.told(2, 3), 4);
        checks.due("and not gilt", x.told(2, 9), 0);
        x.buy(2, 6);
        checks.due("12 leaves do not do", x.pass(5), 0);
        x.buy(2, 1);
        checks.due("13 leaves do", x.pass(1), 1);
        checks.due("gold", x.count(12), 0);
        checks.due("none for book 2", x.pass(3), 0);
        x.buy(2, 1);
        checks.due("book 2", x.pass(1), 1);
    }

    private void passBoards() {
        checks.promise("13 pass: boards");
        SewingFrames x = Workshops.withSewer(9);
        for (int i = 0; i < 8; i++) {
            x.order(1, 1, 0);
        }
        x.hire(9);
        x.seat(1, 1);
        x.hire(9);
        x.seat(2, 2);
        checks.due("6 books get boards", x.pass(30), 6);
        checks.due("boards", x.count(11), 0);
        checks.due("dry", x.count(5), 2);
        x.buy(1, 1);
        checks.due("with 1 board", x.pass(2), 0);
        checks.due("it stays", x.count(11), 1);
        x.buy(1, 1);
        checks.due("with 2 boards", x.pass(1), 1);
        checks.due("the smaller number", x.told(6, 3), 5);
        checks.due("not the other", x.told(7, 3), 3);
    }

    private void passDrying() {
        checks.promise("13 pass: drying");
        int[][] books = {{1, 7, 2}, {1, 8, 3}, {3, 5, 3}, {2, 8, 4}, {24, 8, 26}};
        for (int[] book : books) {
            SewingFrames x = Workshops.withSewer(9);
            x.order(book[0], book[1], 0);
            while (x.told(0, 3) < 2 && x.count(0) < 50) {
                x.pass(1);
            }
            for (int left = book[2]; left > 0; left--) {
                checks.due("told(0, 8)", x.told(0, 8), left);
                checks.due("told(0, 3)", x.told(0, 3), 2);
                x.pass(1);
            }
            checks.due("dry", x.told(0, 3), 3);
            checks.due("no boards in this hour yet", x.count(11), 12);
            checks.due("done", x.pass(1), 1);
        }
    }

    private void passThread() {
        checks.promise("13 pass: thread");
        SewingFrames x = Workshops.withPair(9, 9);
        x.hire(9);
        x.seat(2, 1);
        x.order(24, 1, 0);
        x.order(24, 1, 0);
        x.order(24, 1, 0);
        x.order(24, 1, 0);
        // 124 at frame 0 by hour 10, then on with book 3; 9 an hour at frame 1
        x.pass(13);
        checks.due("thread", x.count(10), 300 - 124 - 45 - 108);
        x.pass(1);
        checks.due("frame 0 sews 15 of 23", x.frame(0, 5), 184);
        checks.due("frame 1 gets 8", x.frame(1, 5), 116);
        checks.due("thread", x.count(10), 0);
        x.pass(5);
        checks.due("no more", x.count(13), 300);
        x.buy(0, 4);
        x.pass(1);
        checks.due("4 stitches", x.frame(0, 5), 188);
        checks.due("none at frame 1", x.frame(1, 5), 116);
    }

    private void passMounting() {
        checks.promise("13 pass: mounting");
        SewingFrames x = Workshops.withSewer(9);
        for (int i = 0; i < 5; i++) {
            x.order(1, 1, 0);
        }
        x.pass(1);
        checks.due("frame 0", x.frame(0, 1), 0);
        checks.due("frame 1, without a sewer", x.frame(1, 1), 1);
        checks.due("frame 2, without a sewer", x.frame(2, 1), 2);
        checks.due("nothing is sewn in the hour of mounting", x.count(13), 0);
        x.pass(1);
        checks.due("in the hour in which a book is sewn", x.frame(0, 1), 3);
        x.unpick(1);
        x.pass(1);
        checks.due("the smallest number that waits", x.frame(0, 1), 1);
        checks.due("the next", x.frame(1, 1), 4);
    }

    private void foresee() {
        checks.promise("14 foresee");
        int[] hours = {1, 2, 5, 13, 40, 120};
        for (int h : hours) {
            SewingFrames x = Workshops.busy();
            SewingFrames y = Workshops.busy();
            long before = x.digest();
            y.pass(h);
            for (int what = 2; what <= 14; what++) {
                if (what != 8 && what != 9) {
                    checks.due("foresee(" + h + ", " + what + ")", x.foresee(h, what), y.count(what));
                }
            }
            checks.due("nothing is changed", x.digest(), before);
        }
        SewingFrames dries = Workshops.withSewer(9);
        dries.order(1, 8, 0);
        dries.pass(3);
        checks.due("2 hours left: foresee(1, 4)", dries.foresee(1, 4), 1);
        checks.due("2 hours left: foresee(2, 5)", dries.foresee(2, 5), 1);
        checks.due("2 hours left: foresee(3, 7)", dries.foresee(3, 7), 1);
        SewingFrames strung = Workshops.withSewer(9);
        strung.string(0, 5);
        strung.order(1, 1, 0);
        checks.due("11 stitches: foresee(2, 13)", strung.foresee(2, 13), 9);
        checks.due("11 stitches: foresee(3, 13)", strung.foresee(3, 13), 11);
        strung.string(0, 2);
        checks.due("8 stitches: foresee(2, 13)", strung.foresee(2, 13), 8);
        SewingFrames x = richer();
        x.order(1, 1, 0);
        checks.due("foresee(1, 3)", x.foresee(1, 3), 1);
        checks.due("foresee(5, 7)", x.foresee(5, 7), 1);
        checks.due("foresee(4, 7)", x.foresee(4, 7), 0);
        checks.due("foresee(2, 10)", x.foresee(2, 10), 282);
        checks.due("foresee(2, 13)", x.foresee(2, 13), 18);
        int[] wrong = {0, 121, -1, LOW, HIGH};
        for (int w : wrong) {
            checks.dueThrow("foresee(" + w + ", 2)", x, ARGUMENT, () -> x.foresee(w, 2));
            checks.dueThrow("foresee(" + w + ", 8)", x, ARGUMENT, () -> x.foresee(w, 8));
        }
        int[] whats = {0, 1, 8, 9, 15, -1, LOW, HIGH};
        for (int w : whats) {
            checks.dueThrow("foresee(1, " + w + ")", x, INDEX, () -> x.foresee(1, w));
        }
    }

    private void until() {
        checks.promise("15 until");
        SewingFrames x = Workshops.withSewer(9);
        x.order(1, 1, 0);
        x.order(1, 1, 0);
        long before = x.digest();
        checks.due("until(0)", x.until(0), 5);
        checks.due("until(1), where nobody sits", x.until(1), -1);
        checks.due("nothing is changed", x.digest(), before);
        x.pass(4);
        checks.due("until(0)", x.until(0), 1);
        x.pass(1);
        checks.due("until(0) now", x.until(0), 0);
        x.sell(0);
        checks.due("until(0) sold", x.until(0), 0);
        x.order(1, 1, 3);
        checks.due("until(2), on the free frame", x.until(2), 1 + 1 + 2 + 1 + 3);
        x.unpick(1);
        checks.due("until(1)", x.until(1), 5);
        checks.due("until(2), without a sewer", x.until(2), -1);
        x.hire(3);
        x.seat(1, 1);
        checks.due("until(2)", x.until(2), 1 + 3 + 2 + 1 + 3);
        checks.dueThrow("until(3)", x, INDEX, () -> x.until(3));
        checks.dueThrow("until(-1)", x, INDEX, () -> x.until(-1));
        checks.dueThrow("until(15)", x, INDEX, () -> x.until(15));
        checks.dueThrow("until(LOW)", x, INDEX, () -> x.until(LOW));
        checks.dueThrow("until(HIGH)", x, INDEX, () -> x.until(HIGH));
    }

    /** Frame 0 alone is sewn at, a stitch an hour: the books 0 and then 3. */
    private static SewingFrames slow(int[] first, int[] last) {
        SewingFrames x = Workshops.withSewer(1);
        x.order(first[0], first[1], first[2]);
        x.order(1, 1, 0);
        x.order(1, 1, 0);
        x.order(last[0], last[1], last[2]);
        return x;
    }

    private void untilIsAtMost250() {
        checks.promise("15 until");
        // mounted in 1; 124 + 119 stitches; 2 + 2 hours to dry; 1 for boards; 1 for each edge
        checks.due("250 hours", slow(new int[] {24, 1, 0}, new int[] {23, 1, 1}).until(3), 250);
        SewingFrames x = slow(new int[] {24, 1, 0}, new int[] {23, 1, 2});
        checks.due("251 hours", x.until(3), -1);
        x.pass(1);
        checks.due("an hour later", x.until(3), 250);
    }

    private void next() {
        checks.promise("16 next");
        SewingFrames x = new SewingFrames();
        checks.due("without books", x.next(), -1);
        x.order(2, 1, 0);
        x.order(1, 1, 0);
        x.order(1, 1, 0);
        checks.due("without sewers", x.next(), -1);
        for (int i = 0; i < 3; i++) {
            x.hire(9);
            x.seat(i, i);
        }
        long before = x.digest();
        checks.due("of 1 and 2 the smaller", x.next(), 1);
        checks.due("nothing is changed", x.digest(), before);
        x.pass(5);
        checks.due("1 and 2 are done", x.next(), 0);
        x.sell(1);
        checks.due("1 is sold", x.next(), 0);
        x.pass(1);
        checks.due("all are done", x.next(), -1);
        SewingFrames y = Workshops.withSewer(9);
        y.order(1, 1, 0);
        y.order(1, 1, 0);
        y.pass(5);
        y.seat(0, 1);
        checks.due("a smaller number is done already", y.next(), 1);
    }

    private void nextIsAtMost250() {
        checks.promise("16 next");
        // book 0 is bound, but its second edge never finds its leaves: 13 + 13, or 12 + 12, of 20
        checks.due("250 hours", slow(new int[] {24, 8, 2}, new int[] {22, 3, 0}).next(), 3);
        SewingFrames x = slow(new int[] {22, 8, 2}, new int[] {24, 3, 0});
        checks.due("251 hours", x.next(), -1);
        x.pass(1);
        checks.due("an hour later", x.next(), 3);
    }

    private void advise() {
        checks.promise("17 advise");
        SewingFrames x = new SewingFrames();
        x.hire(1);
        x.hire(9);
        x.hire(9);
        checks.due("no books: the smallest number", x.advise(0), 0);
        x.seat(1, 0);
        x.seat(2, 0);
        checks.due("where 2 others sit it can't", x.advise(0), 1);
        checks.due("but one of them can stay", x.advise(1), 0);
        x.seat(2, -1);
        x.order(24, 1, 0);
        long before = x.digest();
        checks.due("a slow one does not help a fast one", x.advise(0), 1);
        checks.due("another fast one does", x.advise(2), 0);
        checks.due("nothing is changed", x.digest(), before);
        x.order(24, 1, 0);
        x.order(24, 1, 0);
        checks.due("a frame of its own", x.advise(2), 1);
        x.seat(0, 1);
        checks.due("the third frame", x.advise(2), 2);
        x.hire(5);
        x.hire(5);
        x.seat(2, 2);
        x.seat(3, 0);
        x.seat(4, 1);
        checks.due("the frames 0 and 1 are full but for itself", x.advise(4), 1);
        checks.dueThrow("advise(5)", x, INDEX, () -> x.advise(5));
        checks.dueThrow("advise(-1)", x, INDEX, () -> x.advise(-1));
        checks.dueThrow("advise(LOW)", x, INDEX, () -> x.advise(LOW));
        checks.dueThrow("advise(HIGH)", x, INDEX, () -> x.advise(HIGH));
        checks.dueThrow("advise(0) without sewers", new SewingFrames(), INDEX, () -> new SewingFrames().advise(0));
    }

    /** From hour 0, when nothing is mounted: 11 of the 12 hours are sewn in. */
    private void adviseLooks12HoursAhead() {
        checks.promise("17 advise");
        // book 0 on frame 0 has 99 stitches, 9 * 11; book 1 on frame 1 has more: both sew all 11 hours
        checks.due("as many: the smallest number", adviceOf9(19, 24), 0);
        // 94 stitches end within the 11th hour: 94 against 99
        checks.due("the other has more to sew", adviceOf9(18, 24), 1);
        // 104 and more do not tell the frames apart in 12 hours, though they would in 13
        checks.due("not told apart", adviceOf9(20, 24), 0);
    }

    private static int adviceOf9(int first, int second) {
        SewingFrames x = new SewingFrames();
        x.hire(9);
        x.order(first, 1, 0);
        x.order(second, 1, 0);
        return x.advise(0);
    }

    private void worth() {
        checks.promise("18 worth");
        SewingFrames x = Workshops.withSewer(9);
        checks.due("without books", x.worth(), 0);
        x.order(1, 1, 0);
        x.order(1, 1, 0);
        x.pass(4);
        checks.due("none is done", x.worth(), 0);
        x.seat(0, 1);
        x.pass(1);
        checks.due("one is done", x.worth(), 10);
        x.pass(4);
        checks.due("both are done", x.worth(), 20);
        x.sell(0);
        checks.due("one is sold", x.worth(), 10);
        x.sell(1);
        checks.due("both are sold", x.worth(), 0);
    }

    private void mean() {
        checks.promise("19 mean");
        SewingFrames x = Workshops.withSewer(9);
        checks.due("without books", x.mean(), 0.0);
        x.order(1, 1, 0);
        checks.due("one that waits", x.mean(), 4.0);
        x.order(2, 1, 0);
        checks.due("two that wait", x.mean(), 6.0);
        x.order(2, 1, 0);
        checks.due("three that wait", x.mean(), 20.0 / 3);
        x.pass(1);
        checks.due("three on frames", x.mean(), 38.0 / 3);
        x.pass(4);
        x.sell(0);
        checks.due("two that are not sold", x.mean(), 14.0);
        SewingFrames y = richer();
        checks.due("all are sold", y.mean(), 0.0);
    }

    private void digest() {
        checks.promise("20 digest");
        SewingFrames x = new SewingFrames();
        checks.due("a new object", x.digest(), digestOf(x, 0, 0));
        SewingFrames y = Workshops.busy();
        checks.due("a busy one", y.digest(), digestOf(y, 4, 7));
        long before = y.digest();
        checks.due("digest() twice", y.digest(), before);
        y.seat(2, -1);
        checks.due("another seat", y.digest(), digestOf(y, 4, 7));
        checks.due("it differs", y.digest() == before ? 1 : 0, 0);
    }

    private static long digestOf(SewingFrames x, int sewers, int books) {
        long d = 1367;
        for (int what = 0; what <= 14; what++) {
            d = d * 31 + x.count(what);
        }
        for (int frame = 0; frame <= 2; frame++) {
            for (int what = 0; what <= 5; what++) {
                d = d * 31 + x.frame(frame, what);
            }
        }
        for (int sewer = 0; sewer < sewers; sewer++) {
            d = d * 31 + x.sewer(sewer, 0);
            d = d * 31 + x.sewer(sewer, 1);
        }
        for (int book = 0; book < books; book++) {
            for (int what = 0; what <= 10; what++) {
                d = d * 31 + x.told(book, what);
            }
        }
        return d;
    }
}
