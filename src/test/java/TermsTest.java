/** Each sentence under "Terms" that names a boundary case has a method of its own, worked out by hand. */
final class TermsTest {
    private static final Class<?> STATE = IllegalStateException.class;

    private final Checks checks = new Checks();

    public static void main(String[] args) {
        TermsTest test = new TermsTest();
        test.atFirst();
        test.sewersAndBooks();
        test.gilding();
        test.boards();
        test.drying();
        test.sewing();
        test.mounting();
        test.checks.end();
    }

    private void atFirst() {
        timeFrom0();
        storesAtFirst();
        framesAtFirst();
        sewersAtFirst();
        booksAtFirst();
        aLongLife();
    }

    private void sewersAndBooks() {
        sewersNumberedByHiring();
        twoSitAtAFrame();
        whatAFrameSews();
        booksNumberedByOrdering();
        oneStageBehindTheOther();
        oneStageBehindTheOtherWithoutEdges();
        howThickABookIs();
        stitchesOfASignature();
        stitchesWithOtherCords();
        worthOfOneThatWaits();
        worthWithCords();
        worthIfStrungOtherwiseSince();
        worthWithEdges();
        worthWithLooseStitches();
        worthAtLeast1();
    }

    private void gilding() {
        gildsTheSmallestNumber();
        leavesOfAnEdge();
        leavesJustEnough();
        noOtherBookIsGilt();
        doneWithItsLastEdge();
        notGiltInTheHourOfItsBoards();
    }

    private void boards() {
        boardsByNumbers();
        boardsJustEnough();
        boardsForSeveralInAnHour();
        doneAtOnceWithoutEdges();
        noBoardsInTheHourInWhichItIsDry();
    }

    private void drying() {
        hoursToDry();
        notDriedInTheHourOfItsLastStitch();
    }

    private void sewing() {
        sewsAsManyAnHour();
        threadToTheLastEll();
        threadLacksAnEll();
        threadFromFrame0On();
        looseFromThe10thOn();
        looseCountsAnewEachHour();
        looseCountsAtThisFrame();
        looseCountsOverSignatures();
        sewsNoMoreInThisHour();
    }

    private void mounting() {
        mountsFromFrame0On();
        mountsTheSmallestNumber();
        mountsWhereNobodySits();
        mountsInTheHourInWhichAFrameIsFree();
        mountsNoneIfNoneWaits();
        theHourIs1Greater();
    }

    private void dueTold(SewingFrames x, int book, int what, int want) {
        checks.due("told(" + book + ", " + what + ")", x.told(book, what), want);
    }

    private void dueFrame(SewingFrames x, int frame, int what, int want) {
        checks.due("frame(" + frame + ", " + what + ")", x.frame(frame, what), want);
    }

    private void dueCount(SewingFrames x, int what, int want) {
        checks.due("count(" + what + ")", x.count(what), want);
    }

    // ---- at first

    private void timeFrom0() {
        checks.promise("Time is told in hours, from 0");
        dueCount(new SewingFrames(), 0, 0);
    }

    private void storesAtFirst() {
        checks.promise("300 ells, 12 boards, 20 leaves, 30 coins, at first");
        SewingFrames x = new SewingFrames();
        dueCount(x, 10, 300);
        dueCount(x, 11, 12);
        dueCount(x, 12, 20);
        dueCount(x, 9, 30);
    }

    private void framesAtFirst() {
        checks.promise("There are 3; 3 cords at first, and no book");
        SewingFrames x = new SewingFrames();
        for (int frame = 0; frame <= 2; frame++) {
            dueFrame(x, frame, 0, 3);
            dueFrame(x, frame, 1, -1);
            dueFrame(x, frame, 2, 0);
        }
    }

    private void sewersAtFirst() {
        checks.promise("A sewer sits at none at first");
        SewingFrames x = new SewingFrames();
        x.hire(9);
        checks.due("sewer(0, 1)", x.sewer(0, 1), -1);
        for (int frame = 0; frame <= 2; frame++) {
            dueFrame(x, frame, 2, 0);
            dueFrame(x, frame, 3, 0);
        }
    }

    private void booksAtFirst() {
        checks.promise("A book waits at first");
        SewingFrames x = Workshops.withThree();
        int[] due = {2, 3, 1, 0, -1, 0, 0, 0, 0, 0, 8};
        x.order(2, 3, 1);
        for (int what = 0; what < due.length; what++) {
            dueTold(x, 0, what, due[what]);
        }
        dueFrame(x, 0, 1, -1);
        dueCount(x, 2, 1);
    }

    private void aLongLife() {
        checks.promise("An object is used for at most 512 calls");
        SewingFrames x = Workshops.withSewer(1);
        x.order(24, 1, 0);
        for (int call = 4; call <= 511; call++) {
            x.pass(120);
        }
        checks.due("the 512th call", x.count(0), 508 * 120);
    }

    // ---- sewers and books

    private void sewersNumberedByHiring() {
        checks.promise("At most 5 sewers, numbered from 0 in the order of their hiring");
        SewingFrames x = new SewingFrames();
        int[] speeds = {9, 1, 5, 1, 9};
        for (int sewer = 0; sewer < 5; sewer++) {
            checks.due("hire", x.hire(speeds[sewer]), sewer);
        }
        for (int sewer = 0; sewer < 5; sewer++) {
            checks.due("sewer(" + sewer + ", 0)", x.sewer(sewer, 0), speeds[sewer]);
        }
        checks.dueThrow("the 6th", x, STATE, () -> x.hire(1));
    }

    private void twoSitAtAFrame() {
        checks.promise("At a frame 2 sit at most");
        for (int frame = 0; frame <= 2; frame++) {
            SewingFrames x = new SewingFrames();
            int full = frame;
            x.hire(1);
            x.hire(1);
            x.hire(1);
            checks.due("the first", x.seat(2, frame), -1);
            dueFrame(x, frame, 2, 1);
            checks.due("the second", x.seat(0, frame), -1);
            dueFrame(x, frame, 2, 2);
            checks.dueThrow("the third", x, STATE, () -> x.seat(1, full));
            dueFrame(x, frame, 2, 2);
        }
    }

    private void whatAFrameSews() {
        checks.promise("With two of them 3 less, but at least 1; without any 0");
        dueFrame(new SewingFrames(), 0, 3, 0);
        for (int speed = 1; speed <= 9; speed++) {
            dueFrame(Workshops.withSewer(speed), 0, 3, speed);
        }
        int[][] pairs = {{1, 1, 1}, {1, 2, 1}, {1, 3, 1}, {2, 2, 1}, {1, 4, 2}, {2, 3, 2}, {9, 1, 7}, {9, 9, 15}};
        for (int[] pair : pairs) {
            dueFrame(Workshops.withPair(pair[0], pair[1]), 0, 3, pair[2]);
            dueFrame(Workshops.withPair(pair[1], pair[0]), 0, 3, pair[2]);
        }
    }

    private void booksNumberedByOrdering() {
        checks.promise("There can be 15 in all, numbered from 0 in the order of their ordering");
        SewingFrames x = Workshops.withSewer(9);
        for (int book = 0; book < 14; book++) {
            checks.due("order", x.order(1 + book, 1, 0), book);
            dueTold(x, book, 0, 1 + book);
        }
        x.pass(5);
        x.sell(0);
        x.unpick(1);
        checks.due("the last one", x.order(24, 8, 3), 14);
        dueCount(x, 1, 15);
        // neither what is sold nor what is unpicked makes a place
        checks.dueThrow("one more", x, STATE, () -> x.order(1, 1, 0));
    }

    private void oneStageBehindTheOther() {
        checks.promise("A book waits, is on a frame, dries, is dry, is bound, is done, or is sold");
        SewingFrames x = Workshops.withSewer(9);
        x.order(1, 1, 1);
        int[] stages = {0, 1, 2, 2, 3, 4, 5, 5};
        int[] counts = {2, 3, 4, 4, 5, 6, 7, 7};
        for (int hour = 0; hour < stages.length; hour++) {
            dueTold(x, 0, 3, stages[hour]);
            for (int what = 2; what <= 8; what++) {
                dueCount(x, what, what == counts[hour] ? 1 : 0);
            }
            x.pass(1);
        }
        x.sell(0);
        dueTold(x, 0, 3, 6);
        dueCount(x, 7, 0);
        dueCount(x, 8, 1);
    }

    private void oneStageBehindTheOtherWithoutEdges() {
        checks.promise("A book without edges is not bound first");
        SewingFrames x = Workshops.withSewer(9);
        x.order(1, 1, 0);
        int[] stages = {0, 1, 2, 2, 3, 5, 5};
        for (int stage : stages) {
            dueTold(x, 0, 3, stage);
            x.pass(1);
        }
    }

    private void howThickABookIs() {
        checks.promise("How thick a book is: its signatures times its sheets");
        // 15 and 16 thick, each made in two ways
        checks.due("3 times 5", hoursToDryOf(3, 5), 3);
        checks.due("5 times 3", hoursToDryOf(5, 3), 3);
        checks.due("2 times 8", hoursToDryOf(2, 8), 4);
        checks.due("4 times 4", hoursToDryOf(4, 4), 4);
        checks.due("16 times 1", hoursToDryOf(16, 1), 4);
    }

    private static int hoursToDryOf(int signatures, int sheets) {
        return justSewn(signatures, sheets, 0).told(0, 8);
    }

    /** Book 0 behind the hour of its last stitch; 9 stitches an hour. */
    private static SewingFrames justSewn(int signatures, int sheets, int edges) {
        SewingFrames x = Workshops.withSewer(9);
        x.order(signatures, sheets, edges);
        while (x.told(0, 3) < 2 && x.count(0) < 40) {
            x.pass(1);
        }
        return x;
    }

    private void stitchesOfASignature() {
        checks.promise("Stitches of a signature: the first one, the last one, and one that is both");
        int[][] signatures = {{9}, {7, 7}, {7, 5, 7}, {7, 5, 5, 7}};
        for (int[] stitches : signatures) {
            SewingFrames x = Workshops.withSewer(1);
            x.order(stitches.length, 1, 0);
            x.pass(1);
            for (int whole = 0; whole < stitches.length; whole++) {
                for (int stitch = 0; stitch < stitches[whole]; stitch++) {
                    dueTold(x, 0, 3, 1);
                    dueTold(x, 0, 5, whole);
                    dueTold(x, 0, 6, stitch);
                    x.pass(1);
                }
            }
            dueTold(x, 0, 3, 2);
            dueTold(x, 0, 5, stitches.length);
            dueTold(x, 0, 6, 0);
        }
    }

    private void stitchesWithOtherCords() {
        checks.promise("Stitches of a signature: 2 more than the frame has cords");
        // a book of one signature has 4 more than that, and so has one of 24 in all
        for (int cords = 2; cords <= 6; cords++) {
            checks.due("one with " + cords, stitchesWith(cords, 1), cords + 2 + 4);
            checks.due("two with " + cords, stitchesWith(cords, 2), 2 * (cords + 2) + 4);
            checks.due("24 with " + cords, stitchesWith(cords, 24), 24 * (cords + 2) + 4);
        }
    }

    private static int stitchesWith(int cords, int signatures) {
        SewingFrames x = new SewingFrames();
        x.string(0, cords);
        x.order(signatures, 1, 0);
        x.pass(1);
        return x.frame(0, 4);
    }

    private void worthOfOneThatWaits() {
        checks.promise("Worth: 4 times its signatures; 0 cords for one that waits");
        SewingFrames x = new SewingFrames();
        x.string(0, 6);
        x.order(1, 8, 3);
        x.order(24, 8, 3);
        dueTold(x, 0, 10, 4);
        dueTold(x, 1, 10, 96);
        x.pass(1);
        dueTold(x, 0, 10, 4 + 12);
        x.unpick(0);
        dueTold(x, 0, 10, 4);
    }

    private void worthWithCords() {
        checks.promise("Worth: twice the cords that its frame had as it was mounted");
        for (int cords = 2; cords <= 6; cords++) {
            SewingFrames x = new SewingFrames();
            x.string(0, cords);
            x.order(5, 1, 0);
            x.pass(1);
            dueTold(x, 0, 10, 20 + 2 * cords);
        }
    }

    private void worthIfStrungOtherwiseSince() {
        checks.promise("Worth: also if the frame is strung otherwise since");
        SewingFrames x = Workshops.withSewer(9);
        x.order(1, 1, 0);
        x.pass(2);
        x.string(0, 6);
        dueTold(x, 0, 10, 4 + 6);
        x.pass(3);
        dueTold(x, 0, 10, 4 + 6);
        x.string(0, 2);
        checks.due("sell(0)", x.sell(0), 30 + 4 + 6);
        // but one that is mounted again has the new cords
        SewingFrames y = new SewingFrames();
        y.order(1, 1, 0);
        y.pass(1);
        y.unpick(0);
        y.string(0, 5);
        y.pass(1);
        dueTold(y, 0, 10, 4 + 10);
    }

    private void worthWithEdges() {
        checks.promise("Worth: 6 for each edge that is gilt");
        SewingFrames x = justSewn(1, 1, 3);
        x.pass(3);
        for (int gilt = 0; gilt <= 3; gilt++) {
            dueTold(x, 0, 9, gilt);
            dueTold(x, 0, 10, 4 + 6 + 6 * gilt);
            x.pass(1);
        }
        dueTold(x, 0, 10, 4 + 6 + 18);
    }

    private void worthWithLooseStitches() {
        checks.promise("Worth: less 3 for each loose stitch in it");
        // 15 an hour; kettle stitches at 7, 12, 17, 22, 27, .., and the 12th of each hour is loose
        SewingFrames x = Workshops.withPair(9, 9);
        x.order(24, 1, 0);
        x.pass(1);
        for (int loose = 0; loose <= 5; loose++) {
            dueTold(x, 0, 7, loose);
            dueTold(x, 0, 10, 96 + 6 - 3 * loose);
            x.pass(1);
        }
    }

    private void worthAtLeast1() {
        checks.promise("Worth: at least 1");
        // each signature has one stitch that can be loose: never less than 1 for each signature and its cords
        SewingFrames x = Workshops.withPair(9, 9);
        x.string(0, 4);
        x.order(1, 1, 0);
        x.pass(2);
        dueTold(x, 0, 7, 1);
        dueTold(x, 0, 10, 4 + 8 - 3);
    }

    // ---- gilding

    /** The books 0 to 2 of this size, all bound in this hour. */
    private static SewingFrames threeBound(int signatures, int sheets, int edges) {
        SewingFrames x = Workshops.withThree();
        for (int book = 0; book < 3; book++) {
            x.order(signatures, sheets, edges);
        }
        while (x.count(6) == 0 && x.count(0) < 60) {
            x.pass(1);
        }
        return x;
    }

    private void gildsTheSmallestNumber() {
        checks.promise("Gilding: of all that are bound that with the smallest number, an edge an hour");
        SewingFrames x = threeBound(1, 1, 2);
        dueCount(x, 6, 3);
        int[][] gilt = {{0, 0, 0}, {1, 0, 0}, {2, 0, 0}, {2, 1, 0}, {2, 2, 0}, {2, 2, 1}, {2, 2, 2}, {2, 2, 2}};
        for (int hour = 0; hour < gilt.length; hour++) {
            for (int book = 0; book < 3; book++) {
                dueTold(x, book, 9, gilt[hour][book]);
            }
            dueCount(x, 12, 20 - Math.min(hour, 6));
            x.pass(1);
        }
    }

    private void leavesOfAnEdge() {
        checks.promise("Gilding: 1 + how thick it is / 16 leaves, cut");
        int[][] books = {{1, 1, 1}, {3, 5, 1}, {2, 8, 2}, {4, 4, 2}, {6, 5, 2}, {4, 8, 3}, {23, 8, 12}, {24, 8, 13}};
        for (int[] book : books) {
            SewingFrames x = justSewn(book[0], book[1], 1);
            x.pass(x.until(0) - 1);
            dueCount(x, 12, 20);
            x.pass(1);
            dueCount(x, 12, 20 - book[2]);
        }
    }

    private void leavesJustEnough() {
        checks.promise("Gilding: if there are as many leaves, and not with one fewer");
        SewingFrames x = justSewn(24, 8, 3);
        x.pass(26 + 1);
        dueTold(x, 0, 3, 4);
        x.pass(1);
        dueTold(x, 0, 9, 1);
        dueCount(x, 12, 7);
        x.buy(2, 5);
        x.pass(3);
        dueTold(x, 0, 9, 1);
        dueCount(x, 12, 12);
        x.buy(2, 1);
        x.pass(1);
        dueTold(x, 0, 9, 2);
        dueCount(x, 12, 0);
        x.pass(3);
        dueTold(x, 0, 9, 2);
        dueTold(x, 0, 3, 4);
    }

    private void noOtherBookIsGilt() {
        checks.promise("Gilding: with fewer leaves no other book is gilt");
        // book 0 takes 13 leaves an edge, and waits for 6 more; book 1 would take 1
        SewingFrames x = justSewn(24, 8, 2);
        x.pass(26 + 1 + 1);
        dueCount(x, 12, 7);
        x.order(1, 1, 1);
        x.pass(10);
        dueTold(x, 1, 3, 4);
        dueTold(x, 1, 9, 0);
        dueCount(x, 12, 7);
        x.buy(2, 6);
        x.pass(1);
        dueTold(x, 0, 3, 5);
        dueTold(x, 1, 9, 0);
        x.buy(2, 1);
        x.pass(1);
        dueTold(x, 1, 3, 5);
        dueCount(x, 12, 0);
    }

    private void doneWithItsLastEdge() {
        checks.promise("Gilding: with as many as are to be, it is done");
        for (int edges = 1; edges <= 3; edges++) {
            SewingFrames x = justSewn(1, 1, edges);
            x.pass(3);
            for (int gilt = 0; gilt < edges; gilt++) {
                dueTold(x, 0, 9, gilt);
                dueTold(x, 0, 3, 4);
                checks.due("pass(1)", x.pass(1), gilt + 1 == edges ? 1 : 0);
            }
            dueTold(x, 0, 9, edges);
            dueTold(x, 0, 3, 5);
            x.pass(5);
            dueTold(x, 0, 9, edges);
            dueCount(x, 12, 20 - edges);
        }
    }

    private void notGiltInTheHourOfItsBoards() {
        checks.promise("An hour: 1. gilding, 2. boards");
        SewingFrames x = justSewn(1, 1, 1);
        x.pass(2);
        dueTold(x, 0, 3, 3);
        x.pass(1);
        dueTold(x, 0, 3, 4);
        dueCount(x, 11, 10);
        dueCount(x, 12, 20);
        x.pass(1);
        dueCount(x, 12, 19);
    }

    // ---- boards

    private void boardsByNumbers() {
        checks.promise("Boards: each book that is dry, by numbers");
        SewingFrames x = withoutBoards();
        // of the three that are dry, book 6 gets the first two
        for (int book = 6; book < 9; book++) {
            dueTold(x, book, 3, 3);
        }
        for (int book = 6; book < 9; book++) {
            x.buy(1, 2);
            checks.due("with 2 boards", x.pass(1), 1);
            for (int other = 6; other < 9; other++) {
                dueTold(x, other, 3, other <= book ? 5 : 3);
            }
        }
    }

    /** The books 0 to 5 have taken all boards; the books 6 to 8 are dry; no coin is spent. */
    private static SewingFrames withoutBoards() {
        SewingFrames x = Workshops.withThree();
        for (int book = 0; book < 9; book++) {
            x.order(1, 1, 0);
        }
        x.pass(12);
        return x;
    }

    private void boardsJustEnough() {
        checks.promise("Boards: if there are 2");
        SewingFrames x = withoutBoards();
        dueCount(x, 7, 6);
        dueCount(x, 11, 0);
        checks.due("without boards", x.pass(3), 0);
        x.buy(1, 1);
        checks.due("with 1 board", x.pass(3), 0);
        dueCount(x, 11, 1);
        x.buy(1, 1);
        checks.due("with 2 boards", x.pass(1), 1);
        dueCount(x, 11, 0);
        x.buy(1, 3);
        checks.due("with 3 boards", x.pass(2), 1);
        dueCount(x, 11, 1);
    }

    private void boardsForSeveralInAnHour() {
        checks.promise("Boards: each book that is dry, in one hour");
        SewingFrames x = withoutBoards();
        x.buy(1, 5);
        checks.due("two with 5 boards", x.pass(1), 2);
        dueCount(x, 11, 1);
        x.buy(1, 1);
        checks.due("the third", x.pass(1), 1);
        dueCount(x, 5, 0);
    }

    private void doneAtOnceWithoutEdges() {
        checks.promise("Boards: without edges that are to be gilt it is done at once");
        int[] stages = {5, 4, 4, 4};
        for (int edges = 0; edges <= 3; edges++) {
            SewingFrames x = justSewn(1, 1, edges);
            x.pass(2);
            checks.due("pass(1)", x.pass(1), edges == 0 ? 1 : 0);
            dueTold(x, 0, 3, stages[edges]);
            dueCount(x, 11, 10);
        }
    }

    private void noBoardsInTheHourInWhichItIsDry() {
        checks.promise("An hour: 2. boards, 3. drying");
        SewingFrames x = justSewn(1, 1, 0);
        x.pass(1);
        dueTold(x, 0, 8, 1);
        x.pass(1);
        dueTold(x, 0, 3, 3);
        dueCount(x, 11, 12);
    }

    // ---- drying

    private void hoursToDry() {
        checks.promise("It dries for 2 hours and an eighth (cut) of how thick it is; with none left it is dry");
        int[][] books = {{1, 1, 2}, {1, 7, 2}, {1, 8, 3}, {3, 5, 3}, {2, 8, 4}, {23, 1, 4}, {24, 1, 5}, {24, 8, 26}};
        for (int[] book : books) {
            SewingFrames x = justSewn(book[0], book[1], 0);
            for (int left = book[2]; left > 0; left--) {
                dueTold(x, 0, 3, 2);
                dueTold(x, 0, 8, left);
                x.pass(1);
            }
            dueTold(x, 0, 3, 3);
            dueTold(x, 0, 8, 0);
        }
    }

    private void notDriedInTheHourOfItsLastStitch() {
        checks.promise("An hour: 3. drying, 4. sewing");
        SewingFrames x = Workshops.withSewer(9);
        x.order(1, 1, 0);
        x.pass(2);
        dueTold(x, 0, 3, 2);
        dueTold(x, 0, 8, 2);
        dueTold(x, 0, 4, -1);
        dueFrame(x, 0, 1, -1);
    }

    // ---- sewing

    private void sewsAsManyAnHour() {
        checks.promise("Sewing: as many stitches as it sews in an hour");
        int[][] pairs = {{1, 1, 1}, {1, 2, 1}, {2, 3, 2}, {9, 9, 15}};
        for (int[] pair : pairs) {
            SewingFrames x = Workshops.withPair(pair[0], pair[1]);
            x.order(24, 1, 0);
            x.pass(1);
            dueFrame(x, 0, 5, 0);
            x.pass(1);
            dueFrame(x, 0, 5, pair[2]);
            dueCount(x, 10, 300 - pair[2]);
        }
        SewingFrames none = new SewingFrames();
        none.order(24, 1, 0);
        none.pass(120);
        dueFrame(none, 0, 5, 0);
        dueCount(none, 10, 300);
        dueTold(none, 0, 3, 1);
    }

    /** With 2 cords, three books of 24 signatures take 100 ells each: all that there are. */
    private static SewingFrames threeOf100() {
        SewingFrames x = Workshops.withThree();
        for (int frame = 0; frame < 3; frame++) {
            x.string(frame, 2);
            x.order(24, 1, 0);
        }
        return x;
    }

    private void threadToTheLastEll() {
        checks.promise("Sewing: as far as there is thread, and till the book is sewn");
        SewingFrames x = threeOf100();
        // 9 an hour from hour 2 on: 99 in hour 12, and one more each in hour 13
        x.pass(12);
        dueCount(x, 10, 3);
        dueFrame(x, 2, 4, 1);
        x.pass(1);
        dueCount(x, 10, 0);
        dueCount(x, 4, 3);
        dueCount(x, 13, 300);
        x.order(1, 1, 0);
        x.pass(10);
        dueTold(x, 3, 3, 1);
        dueCount(x, 13, 300);
        dueFrame(x, 0, 3, 9);
    }

    private void threadLacksAnEll() {
        checks.promise("Sewing: with an ell fewer the last book is not sewn");
        SewingFrames x = Workshops.withThree();
        for (int frame = 0; frame < 3; frame++) {
            x.string(frame, 2);
        }
        // 1 stitch of book 0 is lost
        x.seat(0, -1);
        x.hire(1);
        x.seat(3, 0);
        x.order(24, 1, 0);
        x.pass(2);
        checks.due("unpick(0)", x.unpick(0), 1);
        x.seat(3, -1);
        x.seat(0, 0);
        x.order(24, 1, 0);
        x.order(24, 1, 0);
        x.pass(40);
        dueCount(x, 10, 0);
        dueFrame(x, 2, 1, 2);
        dueFrame(x, 2, 4, 1);
        dueTold(x, 2, 5, 23);
        dueTold(x, 2, 6, 5);
        // 5 of the 6 stitches of its last signature: with an ell more it is sewn
        x.buy(0, 1);
        x.pass(1);
        dueTold(x, 2, 3, 2);
        dueCount(x, 10, 0);
    }

    private void threadFromFrame0On() {
        checks.promise("Sewing: each frame with a book, from 0 on");
        SewingFrames x = threeOf100();
        x.order(24, 1, 0);
        x.order(24, 1, 0);
        x.order(24, 1, 0);
        x.pass(40);
        dueCount(x, 13, 300);
        int[] sewn = {x.frame(0, 5), x.frame(1, 5), x.frame(2, 5)};
        int[] ells = {4, 5, 9};
        // 18 ells for frames that sew 9 each: the third gets none
        for (int many : ells) {
            x.buy(0, many);
        }
        x.pass(1);
        dueFrame(x, 0, 5, sewn[0] + 9);
        dueFrame(x, 1, 5, sewn[1] + 9);
        dueFrame(x, 2, 5, sewn[2]);
        x.buy(0, 10);
        x.pass(1);
        dueFrame(x, 0, 5, sewn[0] + 18);
        dueFrame(x, 1, 5, sewn[1] + 10);
        dueFrame(x, 2, 5, sewn[2]);
    }

    private void looseFromThe10thOn() {
        checks.promise("A kettle stitch is loose, if it is the 10th one, or a later one");
        // with one signature the kettle stitch is the last of cords + 6, all sewn in one hour
        int[][] cords = {{2, 0}, {3, 0}, {4, 1}, {5, 1}, {6, 1}};
        for (int[] c : cords) {
            SewingFrames x = Workshops.withPair(9, 9);
            x.string(0, c[0]);
            x.order(1, 1, 0);
            x.pass(2);
            dueTold(x, 0, 3, 2);
            dueTold(x, 0, 7, c[1]);
            dueCount(x, 14, c[1]);
        }
    }

    private void looseCountsAnewEachHour() {
        checks.promise("A kettle stitch is loose: of all stitches in this hour");
        // 10 stitches: 9 and 1
        SewingFrames x = Workshops.withSewer(9);
        x.string(0, 4);
        x.order(1, 1, 0);
        x.pass(3);
        dueTold(x, 0, 3, 2);
        dueTold(x, 0, 7, 0);
        // one sewer alone never gets to the 10th
        x.order(24, 1, 0);
        x.pass(20);
        dueTold(x, 1, 3, 2);
        dueCount(x, 14, 0);
    }

    private void looseCountsAtThisFrame() {
        checks.promise("A kettle stitch is loose: of all stitches at this frame");
        // three frames with 9 stitches each in one hour, the last of them the kettle stitch
        SewingFrames x = Workshops.withThree();
        for (int book = 0; book < 3; book++) {
            x.order(1, 1, 0);
        }
        x.pass(2);
        dueCount(x, 13, 27);
        dueCount(x, 4, 3);
        dueCount(x, 14, 0);
    }

    private void looseCountsOverSignatures() {
        checks.promise("A kettle stitch is loose: of all stitches, not of those of its signature");
        // 7 and 7 stitches in one hour: the second kettle stitch is the 14th
        SewingFrames x = Workshops.withPair(9, 9);
        x.order(2, 1, 0);
        x.pass(2);
        dueTold(x, 0, 3, 2);
        dueTold(x, 0, 7, 1);
        // 10 an hour at 4 cords: kettle stitches at 8, 14, 20 and 28 of 28, in the hours the 8th, 4th, 10th and 8th
        SewingFrames y = Workshops.withPair(9, 4);
        y.string(0, 4);
        y.order(4, 1, 0);
        int[] loose = {0, 0, 0, 1, 1};
        for (int due : loose) {
            dueTold(y, 0, 7, due);
            y.pass(1);
        }
    }

    private void sewsNoMoreInThisHour() {
        checks.promise("Behind the last stitch the book is off the frame, which sews no more in this hour");
        SewingFrames x = Workshops.withPair(9, 9);
        x.order(1, 1, 0);
        x.pass(1);
        for (int book = 1; book <= 5; book++) {
            x.order(1, 1, 0);
        }
        // 9 of 15 stitches an hour, and none of book 1, which is mounted behind them
        x.pass(1);
        dueFrame(x, 0, 5, 9);
        dueFrame(x, 0, 1, 1);
        dueFrame(x, 0, 4, 9);
        dueTold(x, 0, 4, -1);
        x.pass(1);
        dueFrame(x, 0, 5, 18);
        dueCount(x, 10, 300 - 18);
    }

    // ---- mounting

    private void mountsFromFrame0On() {
        checks.promise("Mounting: each frame without a book, from 0 on");
        for (int books = 1; books <= 4; books++) {
            SewingFrames x = new SewingFrames();
            for (int book = 0; book < books; book++) {
                x.order(1, 1, 0);
            }
            x.pass(1);
            for (int frame = 0; frame <= 2; frame++) {
                dueFrame(x, frame, 1, frame < books ? frame : -1);
            }
            dueCount(x, 2, Math.max(0, books - 3));
        }
    }

    private void mountsTheSmallestNumber() {
        checks.promise("Mounting: the book with the smallest number of those that wait");
        SewingFrames x = new SewingFrames();
        for (int book = 0; book < 5; book++) {
            x.order(1, 1, 0);
        }
        x.pass(1);
        x.unpick(1);
        x.unpick(2);
        x.pass(1);
        dueFrame(x, 1, 1, 1);
        dueFrame(x, 2, 1, 2);
        x.unpick(2);
        x.unpick(0);
        x.pass(1);
        dueFrame(x, 0, 1, 0);
        dueFrame(x, 2, 1, 2);
        dueTold(x, 3, 3, 0);
        dueTold(x, 4, 3, 0);
    }

    private void mountsWhereNobodySits() {
        checks.promise("Mounting: whether anybody sits there or not");
        SewingFrames x = new SewingFrames();
        x.hire(9);
        x.seat(0, 2);
        x.order(1, 1, 0);
        x.pass(1);
        dueFrame(x, 0, 1, 0);
        dueFrame(x, 2, 1, -1);
    }

    private void mountsInTheHourInWhichAFrameIsFree() {
        checks.promise("An hour: 4. sewing, 5. mounting");
        SewingFrames x = Workshops.withThree();
        for (int book = 0; book < 5; book++) {
            x.order(1, 1, 0);
        }
        x.pass(1);
        dueCount(x, 13, 0);
        x.pass(1);
        dueFrame(x, 0, 1, 3);
        dueFrame(x, 1, 1, 4);
        dueFrame(x, 2, 1, -1);
        dueTold(x, 3, 6, 0);
        dueCount(x, 13, 27);
    }

    private void mountsNoneIfNoneWaits() {
        checks.promise("Mounting: if there is one");
        SewingFrames x = new SewingFrames();
        x.pass(120);
        for (int frame = 0; frame <= 2; frame++) {
            dueFrame(x, frame, 1, -1);
        }
        SewingFrames y = Workshops.withSewer(9);
        y.order(1, 1, 0);
        y.pass(120);
        dueFrame(y, 0, 1, -1);
        dueTold(y, 0, 3, 5);
    }

    private void theHourIs1Greater() {
        checks.promise("The hour is 1 greater");
        SewingFrames x = new SewingFrames();
        for (int hour = 1; hour <= 3; hour++) {
            x.pass(1);
            dueCount(x, 0, hour);
        }
        x.foresee(120, 2);
        dueCount(x, 0, 3);
    }
}
