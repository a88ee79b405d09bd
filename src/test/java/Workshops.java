/** Workshops that several tests begin with. */
final class Workshops {
    /** In atEveryStage() the book that waits, the one on a frame, and so on to the one that is sold. */
    static final int[] BOOK_AT_STAGE = {6, 5, 3, 4, 1, 2, 0};

    private Workshops() {
    }

    /** One sewer of this speed at frame 0. */
    static SewingFrames withSewer(int speed) {
        SewingFrames x = new SewingFrames();
        x.hire(speed);
        x.seat(0, 0);
        return x;
    }

    /** Two sewers at frame 0. */
    static SewingFrames withPair(int speed, int other) {
        SewingFrames x = withSewer(speed);
        x.hire(other);
        x.seat(1, 0);
        return x;
    }

    /** A sewer of speed 9 at each frame. */
    static SewingFrames withThree() {
        SewingFrames x = new SewingFrames();
        for (int i = 0; i < 3; i++) {
            x.hire(9);
            x.seat(i, i);
        }
        return x;
    }

    /** Seven books, four sewers, some hours gone. */
    static SewingFrames busy() {
        SewingFrames x = withPair(8, 9);
        x.hire(2);
        x.hire(6);
        x.seat(2, 1);
        x.seat(3, 2);
        x.string(1, 5);
        x.order(4, 3, 2);
        x.order(2, 8, 1);
        x.order(9, 2, 0);
        x.order(1, 1, 3);
        x.order(6, 6, 1);
        x.order(3, 7, 2);
        x.order(2, 2, 0);
        x.pass(6);
        return x;
    }

    /** Seven books, one at each stage: BOOK_AT_STAGE; 15, 9 and 9 stitches an hour; 5 hours gone. */
    static SewingFrames atEveryStage() {
        SewingFrames x = withPair(9, 9);
        x.hire(9);
        x.seat(2, 1);
        x.hire(9);
        x.seat(3, 2);
        // sewn in hour 2, done in hour 5 or bound
        x.order(1, 1, 0);
        x.order(1, 1, 2);
        x.order(1, 1, 0);
        // sewn in hour 3: dries till hour 7, and till hour 5
        x.order(2, 8, 0);
        x.order(1, 1, 0);
        x.order(24, 1, 0);
        x.pass(5);
        x.sell(0);
        x.order(3, 2, 1);
        return x;
    }

    /** All 15 books and all 5 sewers; the frames 0 and 1 have two sewers each, frame 2 has one. */
    static SewingFrames full() {
        SewingFrames x = new SewingFrames();
        for (int i = 0; i < 5; i++) {
            x.hire(5 + i);
            x.seat(i, i / 2);
        }
        for (int book = 0; book < 15; book++) {
            x.order(1 + book, 1 + book % 8, book % 4);
        }
        x.pass(7);
        return x;
    }

    /** Has sold 9 books for 100 coins each: 732 coins. */
    static SewingFrames rich() {
        SewingFrames x = withThree();
        for (int frame = 0; frame < 3; frame++) {
            x.string(frame, 2);
        }
        x.buy(1, 6);
        for (int book = 0; book < 9; book++) {
            x.order(24, 1, 0);
            if (book % 3 == 2) {
                x.pass(25);
                x.sell(book - 2);
                x.sell(book - 1);
                x.sell(book);
                x.buy(0, 200);
                x.buy(0, 100);
            }
        }
        return x;
    }
}
