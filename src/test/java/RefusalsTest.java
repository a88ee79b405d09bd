import java.util.function.Consumer;
import java.util.function.Supplier;

/**
 * Each sentence of the document that says what a call throws: the last number that is allowed and the first that
 * is not, on both sides, which exception is thrown where several apply, and that nothing has changed behind it.
 */
final class RefusalsTest {
    private static final Class<?> INDEX = IndexOutOfBoundsException.class;
    private static final Class<?> ARGUMENT = IllegalArgumentException.class;
    private static final Class<?> STATE = IllegalStateException.class;
    private static final int LOW = Integer.MIN_VALUE;
    private static final int HIGH = Integer.MAX_VALUE;

    private final Checks checks = new Checks();

    public static void main(String[] args) {
        RefusalsTest test = new RefusalsTest();
        test.books();
        test.sewersAndFrames();
        test.stores();
        test.hours();
        test.checks.end();
    }

    private void books() {
        orderSignatures();
        orderSheets();
        orderEdges();
        orderIfThereWere15();
        orderFirstNamed();
        unpickNoSuchBook();
        unpickNotOnAFrame();
        sellNoSuchBook();
        sellNotDoneOrSold();
        toldNoSuchBook();
        toldWhat();
    }

    private void sewersAndFrames() {
        hireSpeed();
        hireIfThereAre5();
        hireFirstNamed();
        seatNoSuchSewer();
        seatFrame();
        seatTwoOthers();
        seatFirstNamed();
        sewerNoSuchSewer();
        sewerWhat();
        stringFrame();
        stringCords();
        stringBookOnIt();
        stringFirstNamed();
        frameFrame();
        frameWhat();
    }

    private void stores() {
        buyWhat();
        buyMany();
        buyCoins();
        buyFirstNamed();
        countWhat();
    }

    private void hours() {
        passHours();
        foreseeHours();
        foreseeWhat();
        foreseeFirstNamed();
        untilNoSuchBook();
        adviseNoSuchSewer();
        whatThrowsNothing();
    }

    /** The first numbers that are not allowed, below and above, and the last ones of all. */
    private static int[] outside(int low, int high) {
        return new int[] {low - 1, high + 1, LOW, HIGH};
    }

    /** The call throws exactly this; and the object answers on as one that was made alike and was not asked. */
    private void refused(String call, Class<?> want, Supplier<SewingFrames> make, Consumer<SewingFrames> ask) {
        SewingFrames asked = make.get();
        Class<?> got = null;
        try {
            ask.accept(asked);
        } catch (RuntimeException e) {
            got = e.getClass();
        }
        if (got != want) {
            checks.tell(call + " threw " + got + ", due is " + want);
        }
        if (!Later.of(asked).equals(Later.of(make.get()))) {
            checks.tell(call + " was refused, but changed something");
        }
    }

    // ---- books

    private void orderSignatures() {
        checks.promise("2 order: signatures is not 1 to 24");
        checks.due("order(1, 4, 2)", new SewingFrames().order(1, 4, 2), 0);
        checks.due("order(24, 4, 2)", new SewingFrames().order(24, 4, 2), 0);
        for (int w : outside(1, 24)) {
            refused("order(" + w + ", 4, 2)", ARGUMENT, SewingFrames::new, x -> x.order(w, 4, 2));
            refused("order(" + w + ", 4, 2)", ARGUMENT, Workshops::busy, x -> x.order(w, 4, 2));
        }
    }

    private void orderSheets() {
        checks.promise("2 order: sheets is not 1 to 8");
        checks.due("order(5, 1, 2)", new SewingFrames().order(5, 1, 2), 0);
        checks.due("order(5, 8, 2)", new SewingFrames().order(5, 8, 2), 0);
        for (int w : outside(1, 8)) {
            refused("order(5, " + w + ", 2)", ARGUMENT, SewingFrames::new, x -> x.order(5, w, 2));
            refused("order(5, " + w + ", 2)", ARGUMENT, Workshops::busy, x -> x.order(5, w, 2));
        }
    }

    private void orderEdges() {
        checks.promise("2 order: edges is not 0 to 3");
        checks.due("order(5, 4, 0)", new SewingFrames().order(5, 4, 0), 0);
        checks.due("order(5, 4, 3)", new SewingFrames().order(5, 4, 3), 0);
        for (int w : outside(0, 3)) {
            refused("order(5, 4, " + w + ")", ARGUMENT, SewingFrames::new, x -> x.order(5, 4, w));
            refused("order(5, 4, " + w + ")", ARGUMENT, Workshops::busy, x -> x.order(5, 4, w));
        }
    }

    private static SewingFrames with14Books() {
        SewingFrames x = Workshops.withSewer(9);
        for (int book = 0; book < 14; book++) {
            x.order(1, 1, 0);
        }
        return x;
    }

    /** Of its 15 books the first is sold: those that there were count, not those that are left. */
    private static SewingFrames with15BooksOneSold() {
        SewingFrames x = with14Books();
        x.order(1, 1, 0);
        x.pass(5);
        x.sell(0);
        return x;
    }

    private void orderIfThereWere15() {
        checks.promise("2 order: there were 15");
        checks.due("the 15th order", with14Books().order(1, 1, 0), 14);
        refused("the 16th order", STATE, Workshops::full, x -> x.order(1, 1, 0));
        refused("the 16th order, one is sold", STATE, RefusalsTest::with15BooksOneSold, x -> x.order(24, 8, 3));
    }

    private void orderFirstNamed() {
        checks.promise("2 order: the exception that is named first");
        refused("0 signatures, there were 15", ARGUMENT, Workshops::full, x -> x.order(0, 1, 0));
        refused("25 signatures, there were 15", ARGUMENT, Workshops::full, x -> x.order(25, 1, 0));
        refused("0 sheets, there were 15", ARGUMENT, Workshops::full, x -> x.order(1, 0, 0));
        refused("9 sheets, there were 15", ARGUMENT, Workshops::full, x -> x.order(1, 9, 0));
        refused("-1 edges, there were 15", ARGUMENT, Workshops::full, x -> x.order(1, 1, -1));
        refused("4 edges, there were 15", ARGUMENT, Workshops::full, x -> x.order(1, 1, 4));
        refused("all of it is wrong", ARGUMENT, Workshops::full, x -> x.order(0, 0, 4));
    }

    private void unpickNoSuchBook() {
        checks.promise("3 unpick: there is no such book");
        checks.due("the first number", oneBookOnFrame0().unpick(0), 0);
        checks.due("the last number", lastOnAFrame().unpick(14), 0);
        refused("unpick(0) without books", INDEX, SewingFrames::new, x -> x.unpick(0));
        for (int w : outside(0, 6)) {
            refused("unpick(" + w + ") of 7", INDEX, Workshops::atEveryStage, x -> x.unpick(w));
        }
        for (int w : outside(0, 14)) {
            refused("unpick(" + w + ") of 15", INDEX, Workshops::full, x -> x.unpick(w));
        }
    }

    /** Book 14 is on frame 2, without a sewer. */
    private static SewingFrames lastOnAFrame() {
        SewingFrames x = Workshops.withThree();
        for (int book = 0; book < 12; book++) {
            x.order(1, 1, 0);
        }
        x.pass(5);
        for (int frame = 0; frame < 3; frame++) {
            x.seat(frame, -1);
            x.order(1, 1, 0);
        }
        x.pass(1);
        return x;
    }

    private void unpickNotOnAFrame() {
        checks.promise("3 unpick: it is not on a frame");
        SewingFrames every = Workshops.atEveryStage();
        for (int stage = 0; stage <= 6; stage++) {
            int book = Workshops.BOOK_AT_STAGE[stage];
            checks.due("told(" + book + ", 3)", every.told(book, 3), stage);
            if (stage != 1) {
                refused("unpick at stage " + stage, STATE, Workshops::atEveryStage, x -> x.unpick(book));
            }
        }
        checks.due("unpick at stage 1", every.unpick(Workshops.BOOK_AT_STAGE[1]), 27);
        checks.dueThrow("unpick of the same again", every, STATE, () -> every.unpick(Workshops.BOOK_AT_STAGE[1]));
    }

    private void sellNoSuchBook() {
        checks.promise("4 sell: there is no such book");
        refused("sell(0) without books", INDEX, SewingFrames::new, x -> x.sell(0));
        for (int w : outside(0, 6)) {
            refused("sell(" + w + ") of 7", INDEX, Workshops::atEveryStage, x -> x.sell(w));
        }
        for (int w : outside(0, 14)) {
            refused("sell(" + w + ") of 15", INDEX, Workshops::full, x -> x.sell(w));
        }
    }

    private void sellNotDoneOrSold() {
        checks.promise("4 sell: it is not done, or sold");
        for (int stage = 0; stage <= 6; stage++) {
            int book = Workshops.BOOK_AT_STAGE[stage];
            if (stage != 5) {
                refused("sell at stage " + stage, STATE, Workshops::atEveryStage, x -> x.sell(book));
            }
        }
        SewingFrames every = Workshops.atEveryStage();
        checks.due("sell at stage 5", every.sell(Workshops.BOOK_AT_STAGE[5]), 50);
        checks.dueThrow("sell of the same again", every, STATE, () -> every.sell(Workshops.BOOK_AT_STAGE[5]));
    }

    private void toldNoSuchBook() {
        checks.promise("5 told: there is no such book");
        checks.due("told(0, 0) of 15", Workshops.full().told(0, 0), 1);
        checks.due("told(14, 0) of 15", Workshops.full().told(14, 0), 15);
        refused("told(0, 0) without books", INDEX, SewingFrames::new, x -> x.told(0, 0));
        for (int w : outside(0, 6)) {
            refused("told(" + w + ", 0) of 7", INDEX, Workshops::atEveryStage, x -> x.told(w, 0));
        }
        for (int w : outside(0, 14)) {
            refused("told(" + w + ", 10) of 15", INDEX, Workshops::full, x -> x.told(w, 10));
        }
    }

    private void toldWhat() {
        checks.promise("5 told: what is not 0 to 10");
        checks.due("told(5, 0)", Workshops.atEveryStage().told(5, 0), 24);
        checks.due("told(5, 10)", Workshops.atEveryStage().told(5, 10), 102);
        for (int w : outside(0, 10)) {
            refused("told(5, " + w + ")", INDEX, Workshops::atEveryStage, x -> x.told(5, w));
            refused("told(7, " + w + ") without the book", INDEX, Workshops::atEveryStage, x -> x.told(7, w));
        }
    }

    // ---- sewers and frames

    private void hireSpeed() {
        checks.promise("6 hire: speed is not 1 to 9");
        checks.due("hire(1)", new SewingFrames().hire(1), 0);
        checks.due("hire(9)", new SewingFrames().hire(9), 0);
        for (int w : outside(1, 9)) {
            refused("hire(" + w + ")", ARGUMENT, SewingFrames::new, x -> x.hire(w));
            refused("hire(" + w + ")", ARGUMENT, Workshops::busy, x -> x.hire(w));
        }
    }

    private void hireIfThereAre5() {
        checks.promise("6 hire: there are 5");
        checks.due("the 5th", Workshops.busy().hire(1), 4);
        refused("the 6th", STATE, Workshops::full, x -> x.hire(1));
        refused("the 6th", STATE, Workshops::full, x -> x.hire(9));
    }

    private void hireFirstNamed() {
        checks.promise("6 hire: the exception that is named first");
        refused("speed 0, there are 5", ARGUMENT, Workshops::full, x -> x.hire(0));
        refused("speed 10, there are 5", ARGUMENT, Workshops::full, x -> x.hire(10));
    }

    private void seatNoSuchSewer() {
        checks.promise("7 seat: there is no such sewer");
        checks.due("seat(0, 2) of 5", Workshops.full().seat(0, 2), 0);
        checks.due("seat(4, -1) of 5", Workshops.full().seat(4, -1), 2);
        refused("seat(0, 0) without sewers", INDEX, SewingFrames::new, x -> x.seat(0, 0));
        refused("seat(0, -1) without sewers", INDEX, SewingFrames::new, x -> x.seat(0, -1));
        for (int w : outside(0, 3)) {
            refused("seat(" + w + ", 2) of 4", INDEX, Workshops::busy, x -> x.seat(w, 2));
        }
        for (int w : outside(0, 4)) {
            refused("seat(" + w + ", 2) of 5", INDEX, Workshops::full, x -> x.seat(w, 2));
        }
    }

    private void seatFrame() {
        checks.promise("7 seat: frame is not -1 to 2");
        checks.due("seat(3, -1)", Workshops.full().seat(3, -1), 1);
        checks.due("seat(3, 2)", Workshops.full().seat(3, 2), 1);
        for (int w : outside(-1, 2)) {
            refused("seat(3, " + w + ")", INDEX, Workshops::full, x -> x.seat(3, w));
        }
    }

    private void seatTwoOthers() {
        checks.promise("7 seat: 2 others sit at it");
        checks.due("one other sits at it", Workshops.full().seat(0, 2), 0);
        checks.due("it sits there itself, with one other", Workshops.full().seat(0, 0), 0);
        checks.due("the other of them too", Workshops.full().seat(1, 0), 0);
        refused("2 others at frame 0", STATE, Workshops::full, x -> x.seat(4, 0));
        refused("2 others at frame 1", STATE, Workshops::full, x -> x.seat(4, 1));
        refused("2 others at frame 1, from frame 0", STATE, Workshops::full, x -> x.seat(0, 1));
        SewingFrames x = Workshops.full();
        x.seat(0, 2);
        checks.dueThrow("2 others at frame 2", x, STATE, () -> x.seat(1, 2));
        checks.due("one of the two goes", x.seat(4, -1), 2);
        checks.due("then there is a place", x.seat(1, 2), 0);
        // at none as many sit as like
        SewingFrames y = Workshops.full();
        for (int sewer = 0; sewer < 5; sewer++) {
            checks.due("seat(" + sewer + ", -1)", y.seat(sewer, -1), sewer / 2);
        }
    }

    private void seatFirstNamed() {
        checks.promise("7 seat: the exception that is named first");
        refused("no such sewer, the frame is full", INDEX, Workshops::full, x -> x.seat(5, 0));
        refused("no such sewer, the frame is full", INDEX, Workshops::full, x -> x.seat(-1, 1));
    }

    private void sewerNoSuchSewer() {
        checks.promise("8 sewer: there is no such sewer");
        checks.due("sewer(0, 0) of 5", Workshops.full().sewer(0, 0), 5);
        checks.due("sewer(4, 0) of 5", Workshops.full().sewer(4, 0), 9);
        refused("sewer(0, 0) without sewers", INDEX, SewingFrames::new, x -> x.sewer(0, 0));
        for (int w : outside(0, 3)) {
            refused("sewer(" + w + ", 0) of 4", INDEX, Workshops::busy, x -> x.sewer(w, 0));
        }
        for (int w : outside(0, 4)) {
            refused("sewer(" + w + ", 1) of 5", INDEX, Workshops::full, x -> x.sewer(w, 1));
        }
    }

    private void sewerWhat() {
        checks.promise("8 sewer: what is not 0 to 1");
        checks.due("sewer(3, 0)", Workshops.full().sewer(3, 0), 8);
        checks.due("sewer(3, 1)", Workshops.full().sewer(3, 1), 1);
        for (int w : outside(0, 1)) {
            refused("sewer(3, " + w + ")", INDEX, Workshops::full, x -> x.sewer(3, w));
            refused("sewer(5, " + w + ") without the sewer", INDEX, Workshops::full, x -> x.sewer(5, w));
        }
    }

    private void stringFrame() {
        checks.promise("9 string: frame is not 0 to 2");
        checks.due("string(0, 4)", new SewingFrames().string(0, 4), 3);
        checks.due("string(2, 4)", new SewingFrames().string(2, 4), 3);
        for (int w : outside(0, 2)) {
            refused("string(" + w + ", 4)", INDEX, SewingFrames::new, x -> x.string(w, 4));
            refused("string(" + w + ", 4)", INDEX, Workshops::busy, x -> x.string(w, 4));
        }
    }

    private void stringCords() {
        checks.promise("9 string: cords is not 2 to 6");
        SewingFrames allowed = new SewingFrames();
        checks.due("string(1, 2)", allowed.string(1, 2), 3);
        checks.due("string(1, 6)", allowed.string(1, 6), 2);
        checks.due("frame(1, 0)", allowed.frame(1, 0), 6);
        for (int w : outside(2, 6)) {
            refused("string(1, " + w + ")", ARGUMENT, SewingFrames::new, x -> x.string(1, w));
        }
    }

    /** Book 0 is on frame 0, and is not sewn at; the frames 1 and 2 have none. */
    private static SewingFrames oneBookOnFrame0() {
        SewingFrames x = new SewingFrames();
        x.order(3, 1, 0);
        x.pass(1);
        return x;
    }

    private void stringBookOnIt() {
        checks.promise("9 string: there is a book on it");
        checks.due("another frame", oneBookOnFrame0().string(1, 2), 3);
        refused("string(0, 2)", STATE, RefusalsTest::oneBookOnFrame0, x -> x.string(0, 2));
        refused("string(0, 6)", STATE, RefusalsTest::oneBookOnFrame0, x -> x.string(0, 6));
        refused("as many as it has", STATE, RefusalsTest::oneBookOnFrame0, x -> x.string(0, 3));
        SewingFrames x = oneBookOnFrame0();
        x.unpick(0);
        checks.due("behind unpick", x.string(0, 6), 3);
        SewingFrames y = Workshops.withSewer(9);
        y.order(1, 1, 0);
        checks.due("ahead of the mounting", y.string(0, 3), 3);
        y.pass(1);
        checks.dueThrow("with 9 stitches to go", y, STATE, () -> y.string(0, 4));
        y.pass(1);
        checks.due("behind the last stitch", y.string(0, 4), 3);
    }

    private void stringFirstNamed() {
        checks.promise("9 string: the exception that is named first");
        refused("no such frame, wrong cords", INDEX, SewingFrames::new, x -> x.string(-1, 1));
        refused("no such frame, wrong cords", INDEX, SewingFrames::new, x -> x.string(3, 7));
        refused("wrong cords, a book on it", ARGUMENT, RefusalsTest::oneBookOnFrame0, x -> x.string(0, 1));
        refused("wrong cords, a book on it", ARGUMENT, RefusalsTest::oneBookOnFrame0, x -> x.string(0, 7));
    }

    private void frameFrame() {
        checks.promise("10 frame: frame is not 0 to 2");
        checks.due("frame(0, 0)", Workshops.busy().frame(0, 0), 3);
        checks.due("frame(2, 2)", Workshops.busy().frame(2, 2), 1);
        for (int w : outside(0, 2)) {
            refused("frame(" + w + ", 0)", INDEX, SewingFrames::new, x -> x.frame(w, 0));
            refused("frame(" + w + ", 5)", INDEX, Workshops::busy, x -> x.frame(w, 5));
        }
    }

    private void frameWhat() {
        checks.promise("10 frame: what is not 0 to 5");
        checks.due("frame(2, 0)", Workshops.atEveryStage().frame(2, 0), 3);
        checks.due("frame(2, 5)", Workshops.atEveryStage().frame(2, 5), 36);
        for (int w : outside(0, 5)) {
            refused("frame(2, " + w + ")", INDEX, Workshops::atEveryStage, x -> x.frame(2, w));
            refused("frame(3, " + w + ") without the frame", INDEX, SewingFrames::new, x -> x.frame(3, w));
        }
    }

    // ---- stores

    private void buyWhat() {
        checks.promise("11 buy: what is not 0 to 2");
        checks.due("buy(0, 1)", new SewingFrames().buy(0, 1), 301);
        checks.due("buy(2, 1)", new SewingFrames().buy(2, 1), 21);
        for (int w : outside(0, 2)) {
            refused("buy(" + w + ", 1)", INDEX, SewingFrames::new, x -> x.buy(w, 1));
        }
    }

    private void buyMany() {
        checks.promise("11 buy: many is not 1 to 200");
        for (int what = 0; what <= 2; what++) {
            int store = what;
            SewingFrames one = Workshops.rich();
            int had = one.count(10 + what);
            checks.due("buy(" + what + ", 1)", one.buy(what, 1), had + 1);
            SewingFrames all = Workshops.rich();
            checks.due("buy(" + what + ", 200)", all.buy(what, 200), had + 200);
            for (int w : outside(1, 200)) {
                refused("buy(" + what + ", " + w + ")", ARGUMENT, Workshops::rich, x -> x.buy(store, w));
            }
        }
    }

    private void buyCoins() {
        checks.promise("11 buy: there are not so many coins");
        // 30 coins: 150 ells, 10 boards or 15 leaves
        checks.due("150 ells", new SewingFrames().buy(0, 150), 450);
        checks.due("10 boards", new SewingFrames().buy(1, 10), 22);
        checks.due("15 leaves", new SewingFrames().buy(2, 15), 35);
        refused("151 ells", STATE, SewingFrames::new, x -> x.buy(0, 151));
        refused("11 boards", STATE, SewingFrames::new, x -> x.buy(1, 11));
        refused("16 leaves", STATE, SewingFrames::new, x -> x.buy(2, 16));
        refused("200 ells", STATE, SewingFrames::new, x -> x.buy(0, 200));
        refused("200 boards", STATE, SewingFrames::new, x -> x.buy(1, 200));
        refused("200 leaves", STATE, SewingFrames::new, x -> x.buy(2, 200));
        // 600 coins for 200 boards, and one coin fewer
        checks.due("200 boards for 600", with600Coins().buy(1, 200), 200);
        refused("200 boards for 599", STATE, RefusalsTest::with599Coins, x -> x.buy(1, 200));
        // without a coin
        for (int what = 0; what <= 2; what++) {
            int store = what;
            refused("buy(" + what + ", 1)", STATE, RefusalsTest::withoutCoins, x -> x.buy(store, 1));
        }
    }

    private static SewingFrames with600Coins() {
        SewingFrames x = Workshops.rich();
        x.buy(2, 66);
        return x;
    }

    private static SewingFrames with599Coins() {
        SewingFrames x = with600Coins();
        x.buy(0, 1);
        return x;
    }

    private static SewingFrames withoutCoins() {
        SewingFrames x = new SewingFrames();
        x.buy(1, 10);
        return x;
    }

    private void buyFirstNamed() {
        checks.promise("11 buy: the exception that is named first");
        refused("what and many are wrong", INDEX, SewingFrames::new, x -> x.buy(-1, 0));
        refused("what and many are wrong", INDEX, SewingFrames::new, x -> x.buy(3, 201));
        refused("what is wrong, without coins", INDEX, RefusalsTest::withoutCoins, x -> x.buy(3, 1));
        refused("what is wrong, without coins", INDEX, RefusalsTest::withoutCoins, x -> x.buy(-1, 200));
        refused("many is wrong, without coins", ARGUMENT, RefusalsTest::withoutCoins, x -> x.buy(0, 201));
        refused("many is wrong, without coins", ARGUMENT, RefusalsTest::withoutCoins, x -> x.buy(1, 0));
        refused("all three", INDEX, RefusalsTest::withoutCoins, x -> x.buy(3, 0));
    }

    private void countWhat() {
        checks.promise("12 count: what is not 0 to 14");
        checks.due("count(0)", Workshops.atEveryStage().count(0), 5);
        // only the second kettle stitch of book 3 is loose
        checks.due("count(14)", Workshops.atEveryStage().count(14), 1);
        for (int w : outside(0, 14)) {
            refused("count(" + w + ")", INDEX, SewingFrames::new, x -> x.count(w));
            refused("count(" + w + ")", INDEX, Workshops::atEveryStage, x -> x.count(w));
        }
    }

    // ---- hours and what would be

    private void passHours() {
        checks.promise("13 pass: hours is not 1 to 120");
        SewingFrames allowed = Workshops.busy();
        allowed.pass(1);
        checks.due("behind pass(1)", allowed.count(0), 7);
        allowed.pass(120);
        checks.due("behind pass(120)", allowed.count(0), 127);
        for (int w : outside(1, 120)) {
            refused("pass(" + w + ")", ARGUMENT, SewingFrames::new, x -> x.pass(w));
            refused("pass(" + w + ")", ARGUMENT, Workshops::busy, x -> x.pass(w));
        }
    }

    private void foreseeHours() {
        checks.promise("14 foresee: hours is not 1 to 120");
        SewingFrames allowed = Workshops.withSewer(1);
        allowed.order(24, 1, 0);
        // a stitch in each hour but the first one
        checks.due("foresee(1, 13)", allowed.foresee(1, 13), 0);
        checks.due("foresee(120, 13)", allowed.foresee(120, 13), 119);
        for (int w : outside(1, 120)) {
            refused("foresee(" + w + ", 13)", ARGUMENT, SewingFrames::new, x -> x.foresee(w, 13));
            refused("foresee(" + w + ", 2)", ARGUMENT, Workshops::busy, x -> x.foresee(w, 2));
        }
    }

    private void foreseeWhat() {
        checks.promise("14 foresee: what is none of these");
        // 77 stitches so far; then an edge of book 1, boards for book 4, 9 stitches of book 5, book 6 mounted
        int[] due = {0, 2, 1, 0, 1, 2, 0, 0, 300 - 77 - 9, 12 - 4 * 2, 20 - 1, 77 + 9, 1};
        for (int what = 2; what <= 14; what++) {
            if (what != 8 && what != 9) {
                SewingFrames x = Workshops.atEveryStage();
                checks.due("foresee(1, " + what + ")", x.foresee(1, what), due[what - 2]);
            }
        }
        int[] wrong = {-1, 0, 1, 8, 9, 15, LOW, HIGH};
        for (int w : wrong) {
            refused("foresee(1, " + w + ")", INDEX, Workshops::atEveryStage, x -> x.foresee(1, w));
            refused("foresee(120, " + w + ")", INDEX, SewingFrames::new, x -> x.foresee(120, w));
        }
    }

    private void foreseeFirstNamed() {
        checks.promise("14 foresee: the exception that is named first");
        int[] hours = {0, 121};
        int[] wrong = {-1, 1, 8, 9, 15};
        for (int h : hours) {
            for (int w : wrong) {
                refused("foresee(" + h + ", " + w + ")", ARGUMENT, Workshops::busy, x -> x.foresee(h, w));
            }
        }
    }

    private void untilNoSuchBook() {
        checks.promise("15 until: there is no such book");
        checks.due("until(0)", Workshops.atEveryStage().until(0), 0);
        checks.due("until(14)", lastOnAFrame().until(14), -1);
        refused("until(0) without books", INDEX, SewingFrames::new, x -> x.until(0));
        for (int w : outside(0, 6)) {
            refused("until(" + w + ") of 7", INDEX, Workshops::atEveryStage, x -> x.until(w));
        }
        for (int w : outside(0, 14)) {
            refused("until(" + w + ") of 15", INDEX, Workshops::full, x -> x.until(w));
        }
    }

    private void adviseNoSuchSewer() {
        checks.promise("17 advise: there is no such sewer");
        SewingFrames allowed = new SewingFrames();
        for (int sewer = 0; sewer < 5; sewer++) {
            allowed.hire(9);
            checks.due("advise(" + sewer + ")", allowed.advise(sewer), 0);
        }
        refused("advise(0) without sewers", INDEX, SewingFrames::new, x -> x.advise(0));
        for (int w : outside(0, 3)) {
            refused("advise(" + w + ") of 4", INDEX, Workshops::busy, x -> x.advise(w));
        }
        for (int w : outside(0, 4)) {
            refused("advise(" + w + ") of 5", INDEX, Workshops::full, x -> x.advise(w));
        }
    }

    /** next, worth, mean and digest name no exception. */
    private void whatThrowsNothing() {
        checks.promise("16, 18, 19, 20: they throw nothing");
        SewingFrames[] all = {new SewingFrames(), Workshops.busy(), Workshops.atEveryStage(), Workshops.full(),
            Workshops.rich(), lastOnAFrame()};
        for (SewingFrames x : all) {
            long before = x.digest();
            x.next();
            x.worth();
            x.mean();
            checks.due("digest() behind them", x.digest(), before);
        }
    }
}
