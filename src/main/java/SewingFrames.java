/** A bookbinder's workshop: books are sewn on frames, dry, get boards and are gilt, hour by hour. */
public final class SewingFrames {
    private static final int MOST_BOOKS = 15;
    private static final int MOST_SEWERS = 5;
    private static final int FRAMES = 3;
    private static final int MOST_AT_A_FRAME = 2;
    private static final int NONE = -1;

    /** A place in the row of books that no order has filled yet. */
    private static final int NOT_ORDERED = -1;
    private static final int WAITS = 0;
    private static final int ON_FRAME = 1;
    private static final int DRIES = 2;
    private static final int DRY = 3;
    private static final int BOUND = 4;
    private static final int DONE = 5;
    private static final int SOLD = 6;

    private static final int FIRST_LOOSE_KETTLE = 10;
    private static final int BOARDS_OF_A_BOOK = 2;
    private static final int MOST_BOUGHT = 200;
    private static final int MOST_HOURS = 120;
    private static final int HOURS_LOOKED_AHEAD = 250;
    private static final int HOURS_OF_ADVICE = 12;

    private static final int ABOUT_A_BOOK = 11;
    private static final int ABOUT_A_SEWER = 2;
    private static final int ABOUT_A_FRAME = 6;
    private static final int ABOUT_THE_WORKSHOP = 15;

    private final Workshop now;
    /** Made once and overwritten by each look ahead, so that no call makes a workshop of its own. */
    private final Workshop ahead;

    public SewingFrames() {
        now = new Workshop();
        ahead = new Workshop();
    }

    // ---- books

    public int order(int signatures, int sheets, int edges)
            throws IllegalArgumentException, IllegalStateException {
        if (signatures < 1 || signatures > 24) {
            throw new IllegalArgumentException("signatures are 1 to 24");
        }
        if (sheets < 1 || sheets > 8) {
            throw new IllegalArgumentException("sheets are 1 to 8");
        }
        if (edges < 0 || edges > 3) {
            throw new IllegalArgumentException("edges are 0 to 3");
        }
        Book book = now.freeBook();
        if (book == null) {
            throw new IllegalStateException("no more books can be ordered");
        }
        book.begin(signatures, sheets, edges);
        now.bookCount++;
        return book.number;
    }

    public int unpick(int book) throws IndexOutOfBoundsException, IllegalStateException {
        Book unpicked = knownBook(book);
        if (unpicked.stage != ON_FRAME) {
            throw new IllegalStateException("the book is not on a frame");
        }
        int undone = unpicked.stitches;
        now.clearFrameOf(unpicked);
        unpicked.undo();
        return undone;
    }

    public int sell(int book) throws IndexOutOfBoundsException, IllegalStateException {
        Book sold = knownBook(book);
        if (sold.stage != DONE) {
            throw new IllegalStateException("the book is not done, or sold");
        }
        sold.stage = SOLD;
        now.coins += sold.value();
        return now.coins;
    }

    public int told(int book, int what) throws IndexOutOfBoundsException {
        Book asked = knownBook(book);
        checkKind(what, ABOUT_A_BOOK);
        return asked.tell(what);
    }

    // ---- sewers and frames

    public int hire(int speed) throws IllegalArgumentException, IllegalStateException {
        if (speed < 1 || speed > 9) {
            throw new IllegalArgumentException("speed is 1 to 9");
        }
        Sewer hired = now.freeSewer();
        if (hired == null) {
            throw new IllegalStateException("no more sewers can be hired");
        }
        hired.speed = speed;
        now.sewerCount++;
        return hired.number;
    }

    public int seat(int sewer, int frame) throws IndexOutOfBoundsException, IllegalStateException {
        Sewer seated = knownSewer(sewer);
        if (frame != NONE && (frame < 0 || frame >= FRAMES)) {
            throw new IndexOutOfBoundsException("there is no such frame");
        }
        if (frame != NONE && now.othersAt(frame, sewer) >= MOST_AT_A_FRAME) {
            throw new IllegalStateException("two others sit at the frame");
        }
        int before = seated.frame;
        seated.frame = frame;
        return before;
    }

    public int sewer(int sewer, int what) throws IndexOutOfBoundsException {
        Sewer asked = knownSewer(sewer);
        checkKind(what, ABOUT_A_SEWER);
        return asked.tell(what);
    }

    public int string(int frame, int cords)
            throws IndexOutOfBoundsException, IllegalArgumentException, IllegalStateException {
        Frame strung = knownFrame(frame);
        if (cords < 2 || cords > 6) {
            throw new IllegalArgumentException("cords are 2 to 6");
        }
        if (strung.book != NONE) {
            throw new IllegalStateException("there is a book on the frame");
        }
        int before = strung.cords;
        strung.cords = cords;
        return before;
    }

    public int frame(int frame, int what) throws IndexOutOfBoundsException {
        Frame asked = knownFrame(frame);
        checkKind(what, ABOUT_A_FRAME);
        return now.tellOfFrame(asked, what);
    }

    // ---- stores

    public int buy(int what, int many)
            throws IndexOutOfBoundsException, IllegalArgumentException, IllegalStateException {
        if (what < 0 || what > 2) {
            throw new IndexOutOfBoundsException("what is 0 to 2");
        }
        if (many < 1 || many > MOST_BOUGHT) {
            throw new IllegalArgumentException("many is 1 to 200");
        }
        int price = priceOf(what, many);
        if (price > now.coins) {
            throw new IllegalStateException("there are not so many coins");
        }
        now.coins -= price;
        return now.store(what, many);
    }

    public int count(int what) throws IndexOutOfBoundsException {
        checkKind(what, ABOUT_THE_WORKSHOP);
        return now.tellOfAll(what);
    }

    // ---- hours and what would be

    public int pass(int hours) throws IllegalArgumentException {
        checkHours(hours);
        return now.letHoursGo(hours);
    }

    public int foresee(int hours, int what)
            throws IllegalArgumentException, IndexOutOfBoundsException {
        checkHours(hours);
        if (what < 2 || what > 14 || what == 8 || what == 9) {
            throw new IndexOutOfBoundsException("what is 2 to 7, or 10 to 14");
        }
        ahead.setTo(now);
        ahead.letHoursGo(hours);
        return ahead.tellOfAll(what);
    }

    public int until(int book) throws IndexOutOfBoundsException {
        if (knownBook(book).stage >= DONE) {
            return 0;
        }
        ahead.setTo(now);
        Book later = ahead.bookNumbered(book);
        for (int hours = 1; hours <= HOURS_LOOKED_AHEAD; hours++) {
            ahead.letAnHourGo();
            if (later != null && later.stage == DONE) {
                return hours;
            }
        }
        return -1;
    }

    public int next() {
        ahead.setTo(now);
        for (int hours = 1; hours <= HOURS_LOOKED_AHEAD; hours++) {
            if (ahead.letAnHourGo() > 0) {
                return firstDoneAhead();
            }
        }
        return NONE;
    }

    public int advise(int sewer) throws IndexOutOfBoundsException {
        knownSewer(sewer);
        int best = NONE;
        int most = -1;
        for (int frame = 0; frame < FRAMES; frame++) {
            if (now.othersAt(frame, sewer) < MOST_AT_A_FRAME) {
                int sewn = sewnAheadWith(sewer, frame);
                if (sewn > most) {
                    most = sewn;
                    best = frame;
                }
            }
        }
        return best;
    }

    public int worth() {
        int coins = 0;
        for (Book book : now.books) {
            if (book.stage == DONE) {
                coins += book.value();
            }
        }
        return coins;
    }

    public double mean() {
        int coins = 0;
        int unsold = 0;
        for (Book book : now.books) {
            if (book.stage != NOT_ORDERED && book.stage != SOLD) {
                coins += book.value();
                unsold++;
            }
        }
        return unsold == 0 ? 0.0 : (double) coins / unsold;
    }

    public long digest() {
        long d = 1367;
        for (int what = 0; what < ABOUT_THE_WORKSHOP; what++) {
            d = d * 31 + now.tellOfAll(what);
        }
        for (Frame frame : now.frames) {
            for (int what = 0; what < ABOUT_A_FRAME; what++) {
                d = d * 31 + now.tellOfFrame(frame, what);
            }
        }
        for (int i = 0; i < now.sewers.length && i < now.sewerCount; i++) {
            for (int what = 0; what < ABOUT_A_SEWER; what++) {
                d = d * 31 + now.sewers[i].tell(what);
            }
        }
        for (int i = 0; i < now.books.length && i < now.bookCount; i++) {
            for (int what = 0; what < ABOUT_A_BOOK; what++) {
                d = d * 31 + now.books[i].tell(what);
            }
        }
        return d;
    }

    // ---- what several calls need

    private Book knownBook(int number) {
        Book book = now.bookNumbered(number);
        if (book == null) {
            throw new IndexOutOfBoundsException("there is no such book");
        }
        return book;
    }

    private Sewer knownSewer(int number) {
        Sewer sewer = now.sewerNumbered(number);
        if (sewer == null) {
            throw new IndexOutOfBoundsException("there is no such sewer");
        }
        return sewer;
    }

    private Frame knownFrame(int number) {
        if (number < 0 || number >= now.frames.length) {
            throw new IndexOutOfBoundsException("there is no such frame");
        }
        return now.frames[number];
    }

    private static void checkKind(int what, int kinds) {
        if (what < 0 || what >= kinds) {
            throw new IndexOutOfBoundsException("nothing is told under this number");
        }
    }

    private static void checkHours(int hours) {
        if (hours < 1 || hours > MOST_HOURS) {
            throw new IllegalArgumentException("hours are 1 to 120");
        }
    }

    private static int priceOf(int what, int many) {
        switch (what) {
            case 0: return (many + 4) / 5;
            case 1: return 3 * many;
            default: return 2 * many;
        }
    }

    /** The smallest number of the books that are done ahead, but not now. */
    private int firstDoneAhead() {
        for (int i = 0; i < now.books.length && i < ahead.books.length; i++) {
            if (now.books[i].stage < DONE && ahead.books[i].stage == DONE) {
                return i;
            }
        }
        return NONE;
    }

    /** Compared only with one another, so the stitches that were sewn before may stay in. */
    private int sewnAheadWith(int sewer, int frame) {
        ahead.setTo(now);
        Sewer moved = ahead.sewerNumbered(sewer);
        if (moved != null) {
            moved.frame = frame;
        }
        ahead.letHoursGo(HOURS_OF_ADVICE);
        return ahead.sewn;
    }

    /** A book, or a place for one that is not ordered yet. */
    private static final class Book {
        final int number;
        int signatures;
        int sheets;
        int edges;
        int stage;
        int frame;
        /** Those of its frame as it was mounted; they outlast the frame's next stringing. */
        int cords;
        int stitches;
        int wholeSignatures;
        int stitchesOfNext;
        int loose;
        int hoursToDry;
        int gilt;

        Book(int number) {
            this.number = number;
            stage = NOT_ORDERED;
            frame = NONE;
        }

        void setTo(Book other) {
            signatures = other.signatures;
            sheets = other.sheets;
            edges = other.edges;
            stage = other.stage;
            frame = other.frame;
            cords = other.cords;
            stitches = other.stitches;
            wholeSignatures = other.wholeSignatures;
            stitchesOfNext = other.stitchesOfNext;
            loose = other.loose;
            hoursToDry = other.hoursToDry;
            gilt = other.gilt;
        }

        void begin(int signatures, int sheets, int edges) {
            this.signatures = signatures;
            this.sheets = sheets;
            this.edges = edges;
            stage = WAITS;
        }

        void mount(int onFrame, int withCords) {
            stage = ON_FRAME;
            frame = onFrame;
            cords = withCords;
        }

        void undo() {
            stage = WAITS;
            frame = NONE;
            cords = 0;
            stitches = 0;
            wholeSignatures = 0;
            stitchesOfNext = 0;
            loose = 0;
        }

        int thickness() {
            return signatures * sheets;
        }

        int leavesForAnEdge() {
            return 1 + thickness() / 16;
        }

        int stitchesOfSignature(int signature) {
            int wanted = cords + 2;
            if (signature == 0) {
                wanted += 2;
            }
            if (signature == signatures - 1) {
                wanted += 2;
            }
            return wanted;
        }

        int stitchesToSew() {
            int wanted = 0;
            for (int signature = 0; signature < signatures; signature++) {
                wanted += stitchesOfSignature(signature);
            }
            return wanted - stitches;
        }

        /** Tells whether the stitch was a kettle stitch. */
        boolean addStitch() {
            stitches++;
            stitchesOfNext++;
            if (stitchesOfNext < stitchesOfSignature(wholeSignatures)) {
                return false;
            }
            wholeSignatures++;
            stitchesOfNext = 0;
            return true;
        }

        boolean isSewn() {
            return wholeSignatures >= signatures;
        }

        void beginToDry() {
            stage = DRIES;
            frame = NONE;
            hoursToDry = 2 + thickness() / 8;
        }

        void dryForAnHour() {
            hoursToDry--;
            if (hoursToDry == 0) {
                stage = DRY;
            }
        }

        void bind() {
            stage = edges == 0 ? DONE : BOUND;
        }

        void gildAnEdge() {
            gilt++;
            if (gilt >= edges) {
                stage = DONE;
            }
        }

        int value() {
            return Math.max(1, 4 * signatures + 2 * cords + 6 * gilt - 3 * loose);
        }

        int tell(int what) {
            switch (what) {
                case 0: return signatures;
                case 1: return sheets;
                case 2: return edges;
                case 3: return stage;
                case 4: return frame;
                case 5: return wholeSignatures;
                case 6: return stitchesOfNext;
                case 7: return loose;
                case 8: return hoursToDry;
                case 9: return gilt;
                default: return value();
            }
        }
    }

    /** A sewer, or a place for one that is not hired yet: who has no speed and sits nowhere. */
    private static final class Sewer {
        final int number;
        int speed;
        int frame;

        Sewer(int number) {
            this.number = number;
            frame = NONE;
        }

        void setTo(Sewer other) {
            speed = other.speed;
            frame = other.frame;
        }

        int tell(int what) {
            return what == 0 ? speed : frame;
        }
    }

    /** A sewing frame. */
    private static final class Frame {
        final int number;
        int cords;
        int book;
        int sewn;

        Frame(int number) {
            this.number = number;
            cords = 3;
            book = NONE;
        }

        void setTo(Frame other) {
            cords = other.cords;
            book = other.book;
            sewn = other.sewn;
        }
    }

    /** All that an hour changes: once as it is, and once more to look ahead in. */
    private static final class Workshop {
        final Book[] books;
        final Sewer[] sewers;
        final Frame[] frames;
        int bookCount;
        int sewerCount;
        int hour;
        int coins;
        int thread;
        int boards;
        int gold;
        int sewn;
        int loose;

        Workshop() {
            books = new Book[MOST_BOOKS];
            for (int i = 0; i < books.length; i++) {
                books[i] = new Book(i);
            }
            sewers = new Sewer[MOST_SEWERS];
            for (int i = 0; i < sewers.length; i++) {
                sewers[i] = new Sewer(i);
            }
            frames = new Frame[FRAMES];
            for (int i = 0; i < frames.length; i++) {
                frames[i] = new Frame(i);
            }
            thread = 300;
            boards = 12;
            gold = 20;
            coins = 30;
        }

        void setTo(Workshop other) {
            for (int i = 0; i < books.length && i < other.books.length; i++) {
                books[i].setTo(other.books[i]);
            }
            for (int i = 0; i < sewers.length && i < other.sewers.length; i++) {
                sewers[i].setTo(other.sewers[i]);
            }
            for (int i = 0; i < frames.length && i < other.frames.length; i++) {
                frames[i].setTo(other.frames[i]);
            }
            bookCount = other.bookCount;
            sewerCount = other.sewerCount;
            hour = other.hour;
            coins = other.coins;
            thread = other.thread;
            boards = other.boards;
            gold = other.gold;
            sewn = other.sewn;
            loose = other.loose;
        }

        /** Null if there is no such book. */
        Book bookNumbered(int number) {
            if (number < 0 || number >= bookCount || number >= books.length) {
                return null;
            }
            return books[number];
        }

        /** Null if there is no such sewer. */
        Sewer sewerNumbered(int number) {
            if (number < 0 || number >= sewerCount || number >= sewers.length) {
                return null;
            }
            return sewers[number];
        }

        /** The place of the next book, null if all are ordered. */
        Book freeBook() {
            return bookCount >= 0 && bookCount < books.length ? books[bookCount] : null;
        }

        /** The place of the next sewer, null if all are hired. */
        Sewer freeSewer() {
            return sewerCount >= 0 && sewerCount < sewers.length ? sewers[sewerCount] : null;
        }

        void clearFrameOf(Book book) {
            for (Frame frame : frames) {
                if (frame.book == book.number) {
                    frame.book = NONE;
                }
            }
        }

        int othersAt(int frame, int sewer) {
            int others = 0;
            for (Sewer other : sewers) {
                if (other.frame == frame && other.number != sewer) {
                    others++;
                }
            }
            return others;
        }

        int sittersAt(int frame) {
            return othersAt(frame, NONE);
        }

        int stitchesAnHour(int frame) {
            int sitters = 0;
            int speeds = 0;
            for (Sewer sewer : sewers) {
                if (sewer.frame == frame) {
                    sitters++;
                    speeds += sewer.speed;
                }
            }
            return sitters == MOST_AT_A_FRAME ? Math.max(1, speeds - 3) : speeds;
        }

        /** Adds to a store and returns what is in it then. */
        int store(int what, int many) {
            switch (what) {
                case 0:
                    thread += many;
                    return thread;
                case 1:
                    boards += many;
                    return boards;
                default:
                    gold += many;
                    return gold;
            }
        }

        /** Returns how many books come to be done. */
        int letHoursGo(int hours) {
            int done = 0;
            for (int i = 0; i < hours; i++) {
                done += letAnHourGo();
            }
            return done;
        }

        /** Returns how many books come to be done. */
        int letAnHourGo() {
            int doneBefore = booksAt(DONE);
            gild();
            giveBoards();
            dry();
            for (Frame frame : frames) {
                sewAt(frame);
            }
            for (Frame frame : frames) {
                if (frame.book == NONE) {
                    mountOn(frame);
                }
            }
            hour++;
            return booksAt(DONE) - doneBefore;
        }

        void gild() {
            for (Book book : books) {
                if (book.stage == BOUND) {
                    int leaves = book.leavesForAnEdge();
                    if (gold >= leaves) {
                        gold -= leaves;
                        book.gildAnEdge();
                    }
                    return;
                }
            }
        }

        void giveBoards() {
            for (Book book : books) {
                if (book.stage == DRY && boards >= BOARDS_OF_A_BOOK) {
                    boards -= BOARDS_OF_A_BOOK;
                    book.bind();
                }
            }
        }

        void dry() {
            for (Book book : books) {
                if (book.stage == DRIES) {
                    book.dryForAnHour();
                }
            }
        }

        void sewAt(Frame frame) {
            Book book = bookNumbered(frame.book);
            if (book == null) {
                return;
            }
            int most = Math.min(stitchesAnHour(frame.number), thread);
            for (int stitch = 1; stitch <= most && !book.isSewn(); stitch++) {
                thread--;
                sewn++;
                frame.sewn++;
                boolean kettle = book.addStitch();
                if (kettle && stitch >= FIRST_LOOSE_KETTLE) {
                    book.loose++;
                    loose++;
                }
            }
            if (book.isSewn()) {
                frame.book = NONE;
                book.beginToDry();
            }
        }

        void mountOn(Frame frame) {
            for (Book book : books) {
                if (book.stage == WAITS) {
                    book.mount(frame.number, frame.cords);
                    frame.book = book.number;
                    return;
                }
            }
        }

        int booksAt(int stage) {
            int many = 0;
            for (Book book : books) {
                if (book.stage == stage) {
                    many++;
                }
            }
            return many;
        }

        int tellOfFrame(Frame frame, int what) {
            Book book = bookNumbered(frame.book);
            switch (what) {
                case 0: return frame.cords;
                case 1: return frame.book;
                case 2: return sittersAt(frame.number);
                case 3: return stitchesAnHour(frame.number);
                case 4: return book == null ? 0 : book.stitchesToSew();
                default: return frame.sewn;
            }
        }

        int tellOfAll(int what) {
            switch (what) {
                case 0: return hour;
                case 1: return bookCount;
                case 9: return coins;
                case 10: return thread;
                case 11: return boards;
                case 12: return gold;
                case 13: return sewn;
                case 14: return loose;
                // 2 to 8 are the books of one stage each, from those that wait on
                default: return booksAt(what - 2);
            }
        }
    }
}
