/** The calls that README.md shows answer what it shows. */
final class ReadmeTest {
    public static void main(String[] args) {
        Checks checks = new Checks();
        checks.promise("README.md");
        SewingFrames x = new SewingFrames();
        int sewer = x.hire(7);
        x.seat(sewer, 0);
        int book = x.order(4, 2, 1);
        int hours = x.until(book);
        // mounted in 1; 24 stitches in 4; 2 + 1 hours to dry; 1 for boards, 1 for the edge
        checks.due("until(book)", hours, 10);
        checks.due("pass(hours)", x.pass(hours), 1);
        checks.due("sell(book)", x.sell(book), 30 + 16 + 6 + 6);
        checks.end();
    }
}
