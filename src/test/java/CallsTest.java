import java.util.List;

/** "At most 512 calls": the last of them still answers as due, however full the object is. */
public final class CallsTest {
    private static final Check CHECK = new Check();

    public static void main(String[] args) {
        lastCall();
        fullObject();
        sameCallsSameAnswers();
        CHECK.finish();
    }

    private static void lastCall() {
        Story x = new Story(CHECK, "the 512th call").after("cabin(0, 1)", "person(0, 0, 7, NONE)");
        while (x.callsLeft() > 1) {
            x.due(x.callsLeft() % 2 == 0 ? "book(0)" : "cancel(0)", 0);
        }
        x.due("count(2)", 1);
    }

    /** All that there can be of everything takes 470 calls. */
    private static void fullObject() {
        Script full = new Script().times(20, "cabin(0, 4)").times(100, "person(0, 0, 7, 29)")
            .times(100, "bet(5, 99, 1000, 10000, 35)").times(40, "trunk(99)").times(200, "see(39, 99, 35, 35)")
            .times(10, "feed(538976288, 538976288, 538976288, 538976288, 538976288)");
        Story x = new Story(CHECK, "full", full);
        int[] counts = {20, 100, 0, 0, 100, 40, 200, 200};
        for (int what = 0; what < counts.length; what++) {
            x.due("count(" + what + ")", counts[what]);
        }
        x.due("book(99)", 0).due("book(98)", 1).due("seats(0, 0, 0, 2)", 0).due("dine(6, 0)", 2)
            .due("sitting(6, 99)", 2).due("ill(99, 6)", 0).due("met(98)", 1).due("where(39, 35, 35)", 99);
        for (int pool = 0; pool < 6; pool++) {
            x.due("day(" + pool + ", 1000)", 0);
        }
        x.due("wins(99)", 10000).due("pool(5, 0)", 1000000).due("rules()", 0).due("run(3000, 0, 35, 0, 24)", 7500)
            .due("cabin(0, 4)", -5).due("person(0, 0, 7, 29)", -5).due("bet(5, 99, 1000, 10000, 35)", -5)
            .due("trunk(99)", -5).due("see(39, 99, 35, 35)", -5).due("status()", -5);
        while (x.callsLeft() > 0) {
            x.due("status()", -5);
        }
    }

    private static void sameCallsSameAnswers() {
        List<String> first = Picture.of(CHECK, NumbersTest.voyage(), null);
        List<String> second = Picture.of(CHECK, NumbersTest.voyage(), null);
        CHECK.due("the same calls give the same answers", first.equals(second) ? 1 : 0, 1);
    }
}
