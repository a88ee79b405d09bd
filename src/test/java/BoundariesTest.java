import java.math.BigInteger;

/** What a promise answers at its boundaries; what it refuses stands in RefusalsTest. */
final class BoundariesTest {
    private final Checks checks = new Checks();

    public static void main(String[] args) {
        BoundariesTest test = new BoundariesTest();
        test.books();
        test.sewersAndFrames();
        test.stores();
        test.hours();
        test.lookingAhead();
        test.sums();
        test.checks.end();
    }

    private void books() {
        anObjectOfItsOwn();
        unpickWithoutStitches();
        unpickAheadOfTheLastStitch();
        unpickUndoesLooseStitches();
        unpickKeepsWhatWasSewnInAll();
        unpickLosesTheThread();
        unpickWaitsAgain();
        sellForItsWorth();
        toldFrame();
        toldWholeSignatures();
        toldHoursToDry();
        toldEdges();
    }

    private void sewersAndFrames() {
        seatAtNone();
        seatWhereItSits();
        sewerAtNone();
        stringWithAsMany();
        frameWithoutABook();
        frameTillSewn();
        frameSewnInAll();
    }

    private void stores() {
        buyForACoinForEach5();
        buyBoardsAndLeaves();
        buyForAllCoins();
        countOfStages();
    }

    private void hours() {
        passReturnsNone();
        passReturnsSeveral();
        passReturnsTheLastHour();
        passInOneOrInMany();
    }

    private void lookingAhead() {
        foreseeIsWhatPassBrings();
        untilIsDoneOrSold();
        untilIsInAnHour();
        untilAtMost250();
        untilNever();
        nextOfSeveral();
        nextNeitherDoneNorSold();
        nextWithin250();
        nextOfNone();
        adviseOfSeveral();
        adviseFewerThan2Others();
        adviseWhereItSits();
        adviseWhereItHinders();
        adviseIn12Hours();
        adviseWithoutThread();
        nothingIsChanged();
    }

    private void sums() {
        worthOfNone();
        worthOfThoseDone();
        meanOfNone();
        meanOfThoseNotSold();
        digestOfNone();
        digestWrapsAround();
    }

    private void dueTold(SewingFrames x, int book, int what, int want) {
        checks.due("told(" + book + ", " + what + ")", x.told(book, what), want);
    }

    private void dueFrame(SewingFrames x, int frame, int what, int want) {
        checks.due("frame(" + frame + ", " + what + ")", x.frame(frame, what), want);
    }

    private void dueCount(SewingFrames x, int what, int want) {
        checks.due("count(" + what + ")", x.count(what), want);
    }

    // ---- books

    private void anObjectOfItsOwn() {
        checks.promise("1 a new object: without books and sewers, in the hour 0");
        SewingFrames busy = Workshops.busy();
        SewingFrames x = new SewingFrames();
        checks.due("digest()", x.digest(), new SewingFrames().digest());
        int[] counts = {0, 0, 0, 0, 0, 0, 0, 0, 0, 30, 300, 12, 20, 0, 0};
        for (int what = 0; what <= 14; what++) {
            dueCount(x, what, counts[what]);
        }
        long before = busy.digest();
        x.order(24, 8, 3);
        x.hire(9);
        x.pass(120);
        checks.due("the other's digest()", busy.digest(), before);
    }

    private void unpickWithoutStitches() {
        checks.promise("3 unpick: a book that is mounted, but not sewn at");
        SewingFrames x = Workshops.withSewer(9);
        x.order(2, 1, 0);
        x.pass(1);
        checks.due("unpick(0)", x.unpick(0), 0);
        dueTold(x, 0, 3, 0);
        dueFrame(x, 0, 1, -1);
        dueCount(x, 10, 300);
    }

    private void unpickAheadOfTheLastStitch() {
        checks.promise("3 unpick: all stitches in it are undone");
        SewingFrames x = Workshops.withSewer(1);
        x.order(2, 1, 0);
        x.pass(14);
        dueFrame(x, 0, 4, 1);
        checks.due("unpick(0)", x.unpick(0), 13);
        dueTold(x, 0, 5, 0);
        dueTold(x, 0, 6, 0);
        x.pass(1);
        dueFrame(x, 0, 4, 14);
        // just as many signatures as were undone
        SewingFrames y = Workshops.withSewer(7);
        y.order(2, 1, 0);
        y.pass(2);
        dueTold(y, 0, 6, 0);
        checks.due("unpick of one signature", y.unpick(0), 7);
        y.pass(1);
        checks.due("unpick a second time", y.unpick(0), 0);
    }

    private void unpickUndoesLooseStitches() {
        checks.promise("3 unpick: loose ones with them; count() of 13 and 14 stays");
        SewingFrames x = Workshops.withPair(9, 9);
        x.order(24, 1, 0);
        x.pass(4);
        dueTold(x, 0, 7, 3);
        checks.due("unpick(0)", x.unpick(0), 45);
        dueTold(x, 0, 7, 0);
        dueTold(x, 0, 10, 96);
        dueCount(x, 13, 45);
        dueCount(x, 14, 3);
        x.pass(2);
        dueTold(x, 0, 7, 1);
        dueCount(x, 13, 60);
        dueCount(x, 14, 4);
    }

    private void unpickKeepsWhatWasSewnInAll() {
        checks.promise("3 unpick: what was sewn in all at the frame stays");
        SewingFrames x = Workshops.withSewer(9);
        x.order(24, 1, 0);
        x.pass(3);
        x.unpick(0);
        dueFrame(x, 0, 5, 18);
        dueFrame(x, 0, 4, 0);
        x.pass(2);
        dueFrame(x, 0, 5, 27);
        dueFrame(x, 0, 4, 124 - 9);
    }

    private void unpickLosesTheThread() {
        checks.promise("3 unpick: their thread is lost");
        SewingFrames x = Workshops.withSewer(9);
        x.order(24, 1, 0);
        x.pass(3);
        x.unpick(0);
        dueCount(x, 10, 282);
        dueCount(x, 9, 30);
    }

    private void unpickWaitsAgain() {
        checks.promise("3 unpick: the book waits");
        SewingFrames x = new SewingFrames();
        x.order(1, 1, 0);
        x.order(1, 1, 0);
        x.order(1, 1, 0);
        x.order(1, 1, 0);
        x.pass(1);
        x.unpick(2);
        dueTold(x, 2, 3, 0);
        dueTold(x, 2, 4, -1);
        dueCount(x, 2, 2);
        dueCount(x, 3, 2);
        dueFrame(x, 0, 1, 0);
        dueFrame(x, 1, 1, 1);
        dueFrame(x, 2, 1, -1);
        // it comes ahead of book 3 again
        x.pass(1);
        dueFrame(x, 2, 1, 2);
    }

    private void sellForItsWorth() {
        checks.promise("4 sell: for what it is worth; the coins that there are then");
        // 28 stitches at 4 cords, 10 an hour: one is loose
        SewingFrames x = Workshops.withPair(9, 4);
        x.string(0, 4);
        x.order(4, 1, 1);
        x.pass(x.until(0));
        dueTold(x, 0, 10, 16 + 8 + 6 - 3);
        x.buy(1, 10);
        checks.due("sell(0), without coins", x.sell(0), 27);
        dueCount(x, 9, 27);
        dueTold(x, 0, 10, 27);
    }

    private void toldFrame() {
        checks.promise("5 told: its frame, -1 without one");
        SewingFrames x = Workshops.atEveryStage();
        for (int stage = 0; stage <= 6; stage++) {
            dueTold(x, Workshops.BOOK_AT_STAGE[stage], 4, stage == 1 ? 2 : -1);
        }
    }

    private void toldWholeSignatures() {
        checks.promise("5 told: signatures that are sewn whole (of a sewn book all)");
        SewingFrames x = Workshops.atEveryStage();
        int[] whole = {0, 5, 2, 1, 1, 1, 1};
        // the 27 stitches of the one on a frame are 7, and 4 times 5
        for (int stage = 0; stage <= 6; stage++) {
            dueTold(x, Workshops.BOOK_AT_STAGE[stage], 5, whole[stage]);
            dueTold(x, Workshops.BOOK_AT_STAGE[stage], 6, 0);
        }
        x.pass(1);
        // 9 more: 5 and 4
        dueTold(x, 5, 5, 6);
        dueTold(x, 5, 6, 4);
    }

    private void toldHoursToDry() {
        checks.promise("5 told: hours for which it dries still, 0 if it does not");
        SewingFrames x = Workshops.atEveryStage();
        for (int stage = 0; stage <= 6; stage++) {
            dueTold(x, Workshops.BOOK_AT_STAGE[stage], 8, stage == 2 ? 2 : 0);
        }
    }

    private void toldEdges() {
        checks.promise("5 told: edges that are to be gilt, edges that are gilt");
        SewingFrames x = Workshops.atEveryStage();
        for (int hour = 0; hour <= 3; hour++) {
            dueTold(x, 1, 2, 2);
            dueTold(x, 1, 9, Math.min(hour, 2));
            x.pass(1);
        }
    }

    // ---- sewers and frames

    private void seatAtNone() {
        checks.promise("7 seat: or -1 for none; the frame before, -1 for none");
        SewingFrames x = new SewingFrames();
        x.hire(4);
        checks.due("from none to none", x.seat(0, -1), -1);
        checks.due("from none to 0", x.seat(0, 0), -1);
        checks.due("from 0 to 2", x.seat(0, 2), 0);
        checks.due("from 2 to none", x.seat(0, -1), 2);
        checks.due("from none to 1", x.seat(0, 1), -1);
        checks.due("from 1 to 0", x.seat(0, 0), 1);
        dueFrame(x, 1, 2, 0);
        dueFrame(x, 0, 2, 1);
    }

    private void seatWhereItSits() {
        checks.promise("7 seat: 2 others, not itself");
        SewingFrames x = Workshops.withPair(5, 6);
        checks.due("seat(0, 0)", x.seat(0, 0), 0);
        checks.due("seat(1, 0)", x.seat(1, 0), 0);
        dueFrame(x, 0, 2, 2);
        dueFrame(x, 0, 3, 8);
    }

    private void sewerAtNone() {
        checks.promise("8 sewer: the frame, -1 for none");
        SewingFrames x = Workshops.withSewer(9);
        checks.due("sewer(0, 1)", x.sewer(0, 1), 0);
        x.seat(0, -1);
        checks.due("sewer(0, 1)", x.sewer(0, 1), -1);
        checks.due("sewer(0, 0)", x.sewer(0, 0), 9);
    }

    private void stringWithAsMany() {
        checks.promise("9 string: how many it had");
        SewingFrames x = new SewingFrames();
        checks.due("as many as it has", x.string(1, 3), 3);
        checks.due("from 3 to 2", x.string(1, 2), 3);
        checks.due("from 2 to 6", x.string(1, 6), 2);
        checks.due("from 6 to 3", x.string(1, 3), 6);
        dueFrame(x, 0, 0, 3);
        dueFrame(x, 2, 0, 3);
    }

    private void frameWithoutABook() {
        checks.promise("10 frame: its book, -1 without one; stitches till it is sewn, 0 without one");
        SewingFrames x = Workshops.withSewer(9);
        dueFrame(x, 0, 1, -1);
        dueFrame(x, 0, 4, 0);
        x.order(1, 1, 0);
        x.pass(1);
        dueFrame(x, 0, 1, 0);
        dueFrame(x, 0, 4, 9);
        x.pass(1);
        dueFrame(x, 0, 1, -1);
        dueFrame(x, 0, 4, 0);
    }

    private void frameTillSewn() {
        checks.promise("10 frame: stitches till its book is sewn");
        SewingFrames x = Workshops.withSewer(1);
        x.order(3, 1, 0);
        x.pass(1);
        for (int left = 19; left >= 1; left--) {
            dueFrame(x, 0, 4, left);
            x.pass(1);
        }
        dueFrame(x, 0, 4, 0);
        dueTold(x, 0, 3, 2);
    }

    private void frameSewnInAll() {
        checks.promise("10 frame: stitches that were sewn at it in all");
        SewingFrames x = Workshops.atEveryStage();
        dueFrame(x, 0, 5, 9 + 14);
        dueFrame(x, 1, 5, 9 + 9);
        dueFrame(x, 2, 5, 9 + 27);
        dueCount(x, 13, 77);
    }

    // ---- stores

    private void buyForACoinForEach5() {
        checks.promise("11 buy: thread, for a coin for each 5, and for what is left of fewer");
        int[][] prices = {{1, 1}, {4, 1}, {5, 1}, {6, 2}, {9, 2}, {10, 2}, {11, 3}, {146, 30}, {150, 30},
            {196, 40}, {199, 40}, {200, 40}};
        for (int[] p : prices) {
            SewingFrames x = p[1] <= 30 ? new SewingFrames() : Workshops.rich();
            int coins = x.count(9);
            int ells = x.count(10);
            checks.due("buy(0, " + p[0] + ")", x.buy(0, p[0]), ells + p[0]);
            dueCount(x, 9, coins - p[1]);
            dueCount(x, 10, ells + p[0]);
        }
    }

    private void buyBoardsAndLeaves() {
        checks.promise("11 buy: boards, for 3 coins each; or leaves of gold, for 2 coins each");
        int[] many = {1, 2, 200};
        for (int m : many) {
            SewingFrames x = Workshops.rich();
            checks.due("buy(1, " + m + ")", x.buy(1, m), m);
            dueCount(x, 9, 732 - 3 * m);
            dueCount(x, 11, m);
            SewingFrames y = Workshops.rich();
            checks.due("buy(2, " + m + ")", y.buy(2, m), 20 + m);
            dueCount(y, 9, 732 - 2 * m);
            dueCount(y, 12, 20 + m);
        }
    }

    private void buyForAllCoins() {
        checks.promise("11 buy: if there are just so many coins");
        int[] many = {150, 10, 15};
        int[] had = {300, 12, 20};
        for (int what = 0; what <= 2; what++) {
            SewingFrames x = new SewingFrames();
            checks.due("buy(" + what + ", " + many[what] + ")", x.buy(what, many[what]), had[what] + many[what]);
            dueCount(x, 9, 0);
        }
    }

    private void countOfStages() {
        checks.promise("12 count: of each stage");
        SewingFrames x = Workshops.atEveryStage();
        int[] due = {5, 7, 1, 1, 1, 1, 1, 1, 1, 40, 223, 6, 20, 77, 1};
        for (int what = 0; what <= 14; what++) {
            dueCount(x, what, due[what]);
        }
        SewingFrames y = new SewingFrames();
        for (int book = 0; book < 15; book++) {
            y.order(1, 1, 0);
        }
        dueCount(y, 1, 15);
        dueCount(y, 2, 15);
        y.pass(1);
        dueCount(y, 2, 12);
        dueCount(y, 3, 3);
    }

    // ---- hours

    private void passReturnsNone() {
        checks.promise("13 pass: no book comes to be done");
        checks.due("pass(120) without books", new SewingFrames().pass(120), 0);
        SewingFrames x = Workshops.atEveryStage();
        x.pass(120);
        // what is done already does not come to be done
        checks.due("pass(120) behind it", x.pass(120), 0);
    }

    private void passReturnsSeveral() {
        checks.promise("13 pass: how many books come to be done in them");
        SewingFrames x = Workshops.withThree();
        for (int book = 0; book < 3; book++) {
            x.order(1, 1, 0);
        }
        checks.due("pass(4)", x.pass(4), 0);
        checks.due("pass(1)", x.pass(1), 3);
        // one by its boards, one by its last edge, in one hour
        SewingFrames y = Workshops.withThree();
        y.order(1, 1, 1);
        y.order(2, 1, 0);
        y.pass(5);
        dueTold(y, 0, 3, 4);
        dueTold(y, 1, 3, 3);
        checks.due("pass(1)", y.pass(1), 2);
    }

    private void passReturnsTheLastHour() {
        checks.promise("13 pass: the last of its hours counts");
        SewingFrames x = Workshops.withSewer(9);
        x.order(1, 1, 0);
        checks.due("until(0)", x.until(0), 5);
        checks.due("pass(5)", x.pass(5), 1);
        // mounted in 1, 119 stitches till 120, 4 hours to dry, 1 for boards
        SewingFrames y = Workshops.withSewer(1);
        y.order(23, 1, 0);
        checks.due("pass(120)", y.pass(120), 0);
        dueTold(y, 0, 3, 2);
        checks.due("pass(4)", y.pass(4), 0);
        checks.due("pass(1)", y.pass(1), 1);
    }

    private void passInOneOrInMany() {
        checks.promise("13 pass: many hours are as one behind the other");
        SewingFrames x = Workshops.busy();
        SewingFrames y = Workshops.busy();
        int done = 0;
        for (int hour = 0; hour < 120; hour++) {
            done += y.pass(1);
        }
        checks.due("pass(120)", x.pass(120), done);
        checks.due("digest()", x.digest(), y.digest());
    }

    // ---- looking ahead

    private void foreseeIsWhatPassBrings() {
        checks.promise("14 foresee: this, behind so many hours, if nothing is done by hand");
        int[] hours = {1, 2, 119, 120};
        for (int h : hours) {
            SewingFrames[] all = {new SewingFrames(), Workshops.busy(), Workshops.atEveryStage(), Workshops.full()};
            for (SewingFrames x : all) {
                int[] foreseen = new int[15];
                for (int what = 2; what <= 14; what++) {
                    foreseen[what] = what == 8 || what == 9 ? 0 : x.foresee(h, what);
                }
                x.pass(h);
                for (int what = 2; what <= 14; what++) {
                    if (what != 8 && what != 9) {
                        checks.due("foresee(" + h + ", " + what + ")", foreseen[what], x.count(what));
                    }
                }
            }
        }
    }

    private void untilIsDoneOrSold() {
        checks.promise("15 until: 0 if it is now, or is sold");
        SewingFrames x = Workshops.atEveryStage();
        int[] until = {-1, -1, 3, 1, 2, 0, 0};
        x.seat(3, -1);
        x.seat(2, -1);
        x.seat(1, -1);
        x.seat(0, -1);
        for (int stage = 0; stage <= 6; stage++) {
            checks.due("until at stage " + stage, x.until(Workshops.BOOK_AT_STAGE[stage]), until[stage]);
        }
    }

    private void untilIsInAnHour() {
        checks.promise("15 until: behind how many hours it is done");
        // boards for all seven books
        SewingFrames x = Workshops.busy();
        x.buy(1, 2);
        for (int book = 0; book < 7; book++) {
            SewingFrames y = Workshops.busy();
            y.buy(1, 2);
            int hours = x.until(book);
            for (int hour = 0; hour < hours; hour++) {
                checks.due("done ahead of it", y.told(book, 3) >= 5 ? 1 : 0, 0);
                y.pass(1);
            }
            checks.due("done by then", y.told(book, 3), 5);
        }
    }

    /** A stitch an hour at frame 0 alone: book 0, and then book 3, for which 249 + edges hours are due. */
    private static SewingFrames slow(int edges) {
        SewingFrames x = Workshops.withSewer(1);
        x.order(24, 1, 0);
        x.order(1, 1, 0);
        x.order(1, 1, 0);
        // mounted in 1; 124 and 119 stitches; 2 + 2 hours to dry; 1 for boards
        x.order(23, 1, edges);
        return x;
    }

    private void untilAtMost250() {
        checks.promise("15 until: at most 250; -1 if not by then");
        checks.due("249", slow(0).until(3), 249);
        checks.due("250", slow(1).until(3), 250);
        checks.due("251", slow(2).until(3), -1);
        checks.due("252", slow(3).until(3), -1);
        SewingFrames x = slow(3);
        x.pass(1);
        checks.due("251, an hour later", x.until(3), -1);
        x.pass(1);
        checks.due("250, two hours later", x.until(3), 250);
    }

    private void untilNever() {
        checks.promise("15 until: -1 without a sewer, thread, boards or leaves");
        SewingFrames x = new SewingFrames();
        x.order(1, 1, 0);
        checks.due("without a sewer", x.until(0), -1);
        SewingFrames y = Workshops.withSewer(9);
        y.order(24, 8, 2);
        checks.due("without leaves for its second edge", y.until(0), -1);
        SewingFrames z = Workshops.withThree();
        for (int book = 0; book < 7; book++) {
            z.order(1, 1, 0);
        }
        checks.due("with the last boards", z.until(5), 6);
        checks.due("without boards", z.until(6), -1);
        z.buy(1, 2);
        checks.due("with two boards more", z.until(6), 7);
        SewingFrames v = withoutThreadIn13();
        checks.due("with the last ell", v.until(2), 13 + 5 + 1);
        checks.due("without thread", v.until(3), -1);
        v.buy(0, 99);
        checks.due("with 99 ells of 100", v.until(3), -1);
        v.buy(0, 1);
        // 12 hours from 14 on
        checks.due("with 100 ells", v.until(3), 25 + 5 + 1);
    }

    /** Three books take 100 ells each by hour 13; book 3 waits, and goes to frame 0 then. */
    private static SewingFrames withoutThreadIn13() {
        SewingFrames x = Workshops.withThree();
        for (int frame = 0; frame < 3; frame++) {
            x.string(frame, 2);
        }
        for (int book = 0; book < 4; book++) {
            x.order(24, 1, 0);
        }
        return x;
    }

    /** A sewer at each frame, a book of so many signatures on each. */
    private static SewingFrames threeBooks(int first, int second, int third) {
        SewingFrames x = Workshops.withThree();
        x.order(first, 1, 0);
        x.order(second, 1, 0);
        x.order(third, 1, 0);
        return x;
    }

    private void nextOfSeveral() {
        checks.promise("16 next: the one that is done the soonest, of several the smallest number");
        checks.due("all three in one hour", threeBooks(1, 1, 1).next(), 0);
        checks.due("the second and the third", threeBooks(5, 1, 1).next(), 1);
        checks.due("the first and the third", threeBooks(1, 5, 1).next(), 0);
        checks.due("the third", threeBooks(5, 5, 1).next(), 2);
        checks.due("the second", threeBooks(5, 1, 5).next(), 1);
    }

    private void nextNeitherDoneNorSold() {
        checks.promise("16 next: of all books that are neither done nor sold");
        SewingFrames x = threeBooks(1, 1, 1);
        x.order(1, 1, 0);
        x.pass(5);
        checks.due("0 to 2 are done", x.next(), 3);
        x.sell(0);
        x.sell(2);
        checks.due("0 and 2 are sold", x.next(), 3);
        x.pass(1);
        checks.due("3 is done as well", x.next(), -1);
        x.sell(1);
        x.sell(3);
        checks.due("all are sold", x.next(), -1);
    }

    /** A stitch an hour at frame 0 alone: book 0, which lacks the leaves for its second edge, and then book 3. */
    private static SewingFrames slowBehind(int firstSignatures, int signatures, int sheets) {
        SewingFrames x = Workshops.withSewer(1);
        x.order(firstSignatures, 8, 2);
        x.order(1, 1, 0);
        x.order(1, 1, 0);
        x.order(signatures, sheets, 0);
        return x;
    }

    private void nextWithin250() {
        checks.promise("16 next: -1 if none is within 250 hours");
        // mounted in 1; 124 and 119 or 114 stitches; 4 or 10 hours to dry; 1 for boards
        checks.due("249", slowBehind(24, 23, 1).next(), 3);
        checks.due("250", slowBehind(24, 22, 3).next(), 3);
        // 114 and 124 stitches, 11 hours to dry
        SewingFrames x = slowBehind(22, 24, 3);
        checks.due("251", x.next(), -1);
        x.pass(1);
        checks.due("250, an hour later", x.next(), 3);
    }

    private void nextOfNone() {
        checks.promise("16 next: -1 if none is");
        checks.due("without books", new SewingFrames().next(), -1);
        SewingFrames x = new SewingFrames();
        x.order(1, 1, 0);
        checks.due("without a sewer", x.next(), -1);
        x.hire(1);
        checks.due("with one who sits at none", x.next(), -1);
        x.seat(0, 1);
        checks.due("with one at another frame", x.next(), -1);
        x.seat(0, 0);
        checks.due("with one at its frame", x.next(), 0);
    }

    /** For a sewer of speed 9 at none: with books of so many signatures, one for each frame. */
    private static int adviceOf9(int... signatures) {
        SewingFrames x = new SewingFrames();
        x.hire(9);
        for (int many : signatures) {
            x.order(many, 1, 0);
        }
        return x.advise(0);
    }

    private void adviseOfSeveral() {
        checks.promise("17 advise: of several the one with the smallest number");
        checks.due("without books", adviceOf9(), 0);
        checks.due("a book on frame 0", adviceOf9(1), 0);
        checks.due("all three alike", adviceOf9(24, 24, 24), 0);
        checks.due("the second and the third", adviceOf9(1, 24, 24), 1);
        checks.due("the first and the third", adviceOf9(24, 1, 24), 0);
        checks.due("the third", adviceOf9(1, 1, 24), 2);
        checks.due("the second", adviceOf9(1, 24, 1), 1);
    }

    /** Five sewers, of whom the first sit at these frames, and a book on frame 0 alone. */
    private static SewingFrames withOthers(int... frames) {
        SewingFrames x = new SewingFrames();
        for (int sewer = 0; sewer < 5; sewer++) {
            x.hire(9);
        }
        int sewer = 0;
        for (int frame : frames) {
            x.seat(sewer, frame);
            sewer++;
        }
        x.order(24, 1, 0);
        x.pass(1);
        return x;
    }

    private void adviseFewerThan2Others() {
        checks.promise("17 advise: of those at which fewer than 2 others sit");
        checks.due("one other at each", withOthers(0, 1, 2).advise(4), 0);
        checks.due("2 others at frame 0", withOthers(0, 0).advise(4), 1);
        checks.due("2 others at the frames 0 and 1", withOthers(0, 0, 1, 1).advise(4), 2);
        checks.due("2 others at the frames 0 and 2", withOthers(0, 0, 2, 2).advise(4), 1);
        checks.due("2 others at the frames 1 and 2", withOthers(1, 1, 2, 2).advise(4), 0);
        checks.due("it is one of the two at frame 0", withOthers(0, 0, 1, 1, 2).advise(1), 0);
    }

    private void adviseWhereItSits() {
        checks.promise("17 advise: from now on, at all frames");
        // 9 and 1 at a frame sew 7, apart 9 and 1
        SewingFrames x = Workshops.withPair(9, 1);
        x.order(24, 1, 0);
        checks.due("the slow one goes, as it hinders", x.advise(1), 1);
        checks.due("the fast one stays", x.advise(0), 0);
        x.order(24, 1, 0);
        checks.due("the slow one goes to book 1", x.advise(1), 1);
        checks.due("the fast one goes to book 1", x.advise(0), 1);
        checks.due("sewer(0, 1)", x.sewer(0, 1), 0);
        checks.due("sewer(1, 1)", x.sewer(1, 1), 0);
        // 4 and 4 at a frame sew 5: one more than one of them
        SewingFrames y = Workshops.withPair(4, 4);
        y.order(24, 1, 0);
        checks.due("it stays, as it helps", y.advise(1), 0);
        // 3 and 4 sew 4: as many as 4 alone
        SewingFrames z = Workshops.withPair(4, 3);
        z.order(24, 1, 0);
        z.seat(1, 2);
        checks.due("as many: the smallest number", z.advise(1), 0);
    }

    private void adviseWhereItHinders() {
        checks.promise("17 advise: a frame, though at none more would be sewn");
        SewingFrames x = threeBooks(24, 24, 24);
        x.hire(1);
        checks.due("it hinders alike at all three", x.advise(3), 0);
        x.hire(9);
        x.seat(4, 0);
        checks.due("2 others at frame 0", x.advise(3), 1);
        x.seat(2, -1);
        checks.due("nobody at frame 2", x.advise(3), 2);
    }

    private void adviseIn12Hours() {
        checks.promise("17 advise: the most stitches in 12 hours");
        // mounted in the first hour: 11 hours of 9 stitches are 99, and 19 signatures have 99
        checks.due("99 and 99", adviceOf9(19, 24), 0);
        checks.due("94 and 99", adviceOf9(18, 24), 1);
        checks.due("99 and 94", adviceOf9(19, 18), 0);
    }

    private void adviseWithoutThread() {
        checks.promise("17 advise: as far as there is thread");
        SewingFrames x = withoutThreadIn13();
        x.order(24, 1, 0);
        x.order(24, 1, 0);
        x.pass(20);
        dueCount(x, 10, 0);
        for (int sewer = 0; sewer < 3; sewer++) {
            checks.due("without thread", x.advise(sewer), 0);
            x.buy(0, 5);
            checks.due("with some ells", x.advise(sewer), 0);
            x.pass(1);
        }
    }

    private void nothingIsChanged() {
        checks.promise("14 to 20: nothing is changed");
        SewingFrames[] asked = {new SewingFrames(), Workshops.busy(), Workshops.atEveryStage(), Workshops.full()};
        SewingFrames[] others = {new SewingFrames(), Workshops.busy(), Workshops.atEveryStage(), Workshops.full()};
        int[] sewers = {0, 4, 4, 5};
        for (int i = 0; i < asked.length; i++) {
            SewingFrames x = asked[i];
            x.foresee(1, 13);
            x.foresee(120, 7);
            x.next();
            x.worth();
            x.mean();
            x.digest();
            for (int book = 0; book < x.count(1); book++) {
                x.until(book);
                x.told(book, 10);
            }
            for (int sewer = 0; sewer < sewers[i]; sewer++) {
                x.advise(sewer);
                x.sewer(sewer, 1);
            }
            x.frame(2, 4);
            checks.due("answers as one that was not asked", Later.of(x).equals(Later.of(others[i])) ? 1 : 0, 1);
        }
    }

    // ---- sums

    private void worthOfNone() {
        checks.promise("18 worth: of none");
        checks.due("without books", new SewingFrames().worth(), 0);
        SewingFrames x = Workshops.atEveryStage();
        x.sell(2);
        checks.due("at all stages but done", x.worth(), 0);
    }

    private void worthOfThoseDone() {
        checks.promise("18 worth: of all books that are done, but not sold");
        checks.due("one of each stage", Workshops.atEveryStage().worth(), 10);
        SewingFrames x = threeBooks(1, 2, 3);
        x.pass(30);
        checks.due("three", x.worth(), 10 + 14 + 18);
        x.sell(1);
        checks.due("two", x.worth(), 10 + 18);
        x.sell(0);
        x.sell(2);
        checks.due("none", x.worth(), 0);
    }

    private void meanOfNone() {
        checks.promise("19 mean: 0 if there are none");
        checks.due("without books", new SewingFrames().mean(), 0.0);
        checks.due("all are sold", Workshops.rich().mean(), 0.0);
    }

    private void meanOfThoseNotSold() {
        checks.promise("19 mean: of all books that are not sold");
        // those at stage 0 to 5: 12, 102, 11, 10, 10 and 10
        checks.due("one of each stage", Workshops.atEveryStage().mean(), 155.0 / 6);
        SewingFrames x = new SewingFrames();
        x.order(1, 1, 0);
        checks.due("one", x.mean(), 4.0);
        x.order(2, 1, 0);
        x.order(2, 1, 0);
        checks.due("not a whole number", x.mean(), 20.0 / 3);
    }

    private void digestOfNone() {
        checks.promise("20 digest: a number d starts with 1367");
        SewingFrames x = new SewingFrames();
        int[] counts = {0, 0, 0, 0, 0, 0, 0, 0, 0, 30, 300, 12, 20, 0, 0};
        int[] frame = {3, -1, 0, 0, 0, 0};
        BigInteger d = with(BigInteger.valueOf(1367), counts);
        d = with(with(with(d, frame), frame), frame);
        checks.due("digest()", x.digest(), d.longValue());
    }

    private void digestWrapsAround() {
        checks.promise("20 digest: wraps around as a 64-bit integer");
        checks.due("busy", Workshops.busy().digest(), unbounded(Workshops.busy(), 4).longValue());
        checks.due("full", Workshops.full().digest(), unbounded(Workshops.full(), 5).longValue());
        checks.due("it is far above 64 bits", unbounded(Workshops.full(), 5).bitLength() > 900 ? 1 : 0, 1);
    }

    private static BigInteger with(BigInteger d, int... numbers) {
        for (int x : numbers) {
            d = d.multiply(BigInteger.valueOf(31)).add(BigInteger.valueOf(x));
        }
        return d;
    }

    /** What digest() would be without an end of its numbers. */
    private static BigInteger unbounded(SewingFrames x, int sewers) {
        BigInteger d = BigInteger.valueOf(1367);
        for (int what = 0; what <= 14; what++) {
            d = with(d, x.count(what));
        }
        for (int frame = 0; frame <= 2; frame++) {
            for (int what = 0; what <= 5; what++) {
                d = with(d, x.frame(frame, what));
            }
        }
        for (int sewer = 0; sewer < sewers; sewer++) {
            d = with(d, x.sewer(sewer, 0), x.sewer(sewer, 1));
        }
        for (int book = 0; book < x.count(1); book++) {
            for (int what = 0; what <= 10; what++) {
                d = with(d, x.told(book, what));
            }
        }
        return d;
    }
}
