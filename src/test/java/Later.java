/** What an object answers to a long row of calls, always the same ones: two objects in one state answer alike. */
final class Later {
    private static final int HOURS = 60;

    private final SewingFrames x;
    private final StringBuilder answers = new StringBuilder();

    private Later(SewingFrames x) {
        this.x = x;
    }

    static String of(SewingFrames x) {
        Later later = new Later(x);
        later.lookAround();
        later.goOn();
        return later.answers.toString();
    }

    private void lookAround() {
        tell(x.digest());
        tell(x.worth());
        answers.append(x.mean()).append(' ');
        tell(x.next());
        for (int book = 0; book < x.count(1); book++) {
            tell(x.until(book));
        }
        for (int sewer = 0; sewer < 5; sewer++) {
            try {
                tell(x.advise(sewer));
            } catch (IndexOutOfBoundsException e) {
                answers.append("no sewer ");
            }
        }
    }

    private void goOn() {
        try {
            tell(x.hire(4));
        } catch (IllegalStateException e) {
            answers.append("no more sewers ");
        }
        try {
            tell(x.order(2, 8, 1));
        } catch (IllegalStateException e) {
            answers.append("no more books ");
        }
        for (int frame = 0; frame < 3; frame++) {
            try {
                tell(x.string(frame, 5));
            } catch (IllegalStateException e) {
                answers.append("a book on it ");
            }
        }
        for (int hour = 0; hour < HOURS; hour++) {
            tell(x.pass(1));
            tell(x.digest());
        }
    }

    private void tell(long answer) {
        answers.append(answer).append(' ');
    }
}
