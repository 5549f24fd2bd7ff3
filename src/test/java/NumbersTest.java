/**
 * Every number that every call takes: the first and the last one taken, those next to them, and the least and the
 * most an int can be; with what status() says, and that a call that is refused leaves all as it was.
 */
public final class NumbersTest {
    private static final Check CHECK = new Check();
    private static final int WRONG = -1;
    private static final int NOT_THERE = -2;

    public static void main(String[] args) {
        Refusals voyage = new Refusals(CHECK, "voyage", voyage());
        berths(voyage);
        dining(voyage);
        engine(voyage);
        pools(voyage);
        trunks(voyage);
        sickness(voyage);
        questions();
        CHECK.finish();
    }

    /** Something of everything, so that whatever a refused call changed would be seen. */
    static Script voyage() {
        return new Script()
            .then("cabin(0, 2)", "cabin(0, 1)", "cabin(1, 4)", "cabin(2, 3)")
            .then("person(0, 0, 3, 5)", "person(0, 2, 5, 5)", "person(0, 3, 6, NONE)", "person(0, 0, 2, NONE)")
            .then("person(1, 0, 7, 29)", "person(1, 0, 7, 0)", "person(2, 6, 7, NONE)", "person(0, 0, 7, 9)")
            .each(0, 4, "book(?)").then("book(6)")
            .then("seats(0, 2, 1, 0)", "seats(1, 0, 3, 0)", "seats(2, 1, 1, 1)")
            .then("wish(0, 1)", "wish(2, 0)", "wish(4, 2)", "wish(6, 1)", "wish(7, 2)")
            .then("dine(2, 0)", "dine(3, 0)", "dine(3, 1)", "dine(6, 2)")
            .then("burn(10, 30)", "burn(24, 1000)", "storm(3, 7, 33)", "storm(35, 35, 100)", "run(200, 2, 9, 1, 23)")
            .tape("pool below;seamen 10;close 30;stake 5 to 500").then("rules()")
            .then("bet(0, 0, 300, 50, 0)", "bet(0, 1, 310, 60, 5)", "bet(1, 2, 100, 70, 6)", "bet(5, 4, 7, 80, 30)")
            .then("day(0, 305)", "day(1, 200)")
            .then("trunk(0)", "trunk(4)", "see(0, 7, 3, 3)", "see(0, 8, 5, 9)", "see(1, 99, 35, 0)")
            .then("ill(0, 1)", "ill(4, 0)")
            .tape("close 3;pool exact");
    }

    private static void berths(Refusals voyage) {
        voyage.range("cabin(?, 2)", 0, 2, WRONG);
        voyage.range("cabin(0, ?)", 1, 4, WRONG);
        voyage.range("person(?, 0, 7, 3)", 0, 2, WRONG);
        voyage.range("person(0, ?, 7, 3)", 0, 6, WRONG);
        voyage.range("person(0, ?, 4, 3)", 0, 3, WRONG);
        voyage.range("person(0, 0, ?, 3)", 1, 7, WRONG);
        voyage.range("person(0, 4, ?, 3)", 5, 7, WRONG);
        voyage.range("person(0, 0, 7, ?)", -1, 29, WRONG);
        Script unbooked = new Script().then("cabin(0, 2)").times(2, "person(0, 0, 7, 1)");
        new Refusals(CHECK, "unbooked", unbooked).range("book(?)", 0, 1, NOT_THERE);
        Script booked = new Script().then(unbooked).each(0, 1, "book(?)");
        new Refusals(CHECK, "booked", booked).range("cancel(?)", 0, 1, NOT_THERE);
    }

    private static void dining(Refusals voyage) {
        voyage.range("seats(?, 0, 0, 0)", 0, 2, WRONG);
        voyage.range("seats(0, ?, 5, 5)", 0, 100, WRONG);
        voyage.range("seats(0, 5, ?, 5)", 0, 100, WRONG);
        voyage.range("seats(0, 5, 5, ?)", 0, 100, WRONG);
        voyage.range("wish(?, 0)", 0, 7, NOT_THERE);
        voyage.range("wish(0, ?)", -1, 2, WRONG);
        voyage.range("dine(?, 0)", 0, 6, WRONG);
        voyage.range("dine(0, ?)", 0, 2, WRONG);
    }

    private static void engine(Refusals voyage) {
        voyage.range("burn(?, 7)", 0, 24, WRONG);
        voyage.range("burn(10, ?)", 0, 1000, WRONG);
        voyage.range("storm(?, 35, 7)", 0, 35, WRONG);
        voyage.range("storm(?, 20, 7)", 0, 20, WRONG);
        voyage.range("storm(0, ?, 7)", 0, 35, WRONG);
        voyage.range("storm(20, ?, 7)", 20, 35, WRONG);
        voyage.range("storm(0, 35, ?)", 0, 100, WRONG);
        voyage.range("run(?, 0, 35, 0, 24)", 0, 3000, WRONG);
        voyage.range("run(0, ?, 35, 0, 24)", 0, 34, WRONG);
        voyage.range("run(0, ?, 20, 0, 24)", 0, 19, WRONG);
        voyage.range("run(0, 0, ?, 0, 24)", 1, 35, WRONG);
        voyage.range("run(0, 20, ?, 0, 24)", 21, 35, WRONG);
        voyage.range("run(0, 0, 1, ?, 24)", 0, 24, WRONG);
        voyage.range("run(0, 0, 1, ?, 9)", 0, 9, WRONG);
        voyage.range("run(0, 0, 1, 0, ?)", 0, 24, WRONG);
        voyage.range("run(0, 0, 1, 9, ?)", 9, 24, WRONG);
    }

    private static void pools(Refusals voyage) {
        voyage.range("bet(?, 0, 10, 10, 10)", 0, 5, WRONG);
        voyage.range("bet(0, ?, 10, 10, 10)", 0, 7, NOT_THERE);
        voyage.range("bet(0, 0, ?, 10, 10)", 0, 1000, WRONG);
        voyage.range("bet(0, 0, 10, ?, 10)", 0, 10000, WRONG);
        voyage.range("bet(0, 0, 10, 10, ?)", 0, 35, WRONG);
        voyage.range("day(?, 10)", 0, 5, WRONG);
        voyage.range("day(0, ?)", -1, 1000, WRONG);
    }

    private static void trunks(Refusals voyage) {
        voyage.range("trunk(?)", 0, 7, NOT_THERE);
        voyage.range("see(?, 10, 10, 10)", 0, 1, NOT_THERE);
        voyage.range("see(0, ?, 10, 10)", 0, 99, WRONG);
        voyage.range("see(0, 10, ?, 10)", 0, 35, WRONG);
        voyage.range("see(0, 10, 10, ?)", 0, 35, WRONG);
    }

    private static void sickness(Refusals voyage) {
        voyage.range("ill(?, 0)", 0, 7, NOT_THERE);
        voyage.range("ill(0, ?)", -1, 6, WRONG);
    }

    /** An object of which each of the questions has an answer for each number it takes. */
    private static Script answering() {
        Script script = new Script().each(0, 2, "cabin(?, 4)");
        for (int cls = 0; cls < 3; cls++) {
            script.times(4, "person(" + cls + ", 0, 7, 3)").then("seats(" + cls + ", 0, 0, 4)");
        }
        script.each(0, 11, "book(?)");
        for (int cls = 0; cls < 3; cls++) {
            script.each(0, 6, "dine(?, " + cls + ")");
        }
        return script.then("run(100, 0, 35, 1, 24)", "bet(0, 0, 10, 10, 0)")
            .each(0, 5, "day(?, 10)").times(2, "trunk(0)").each(0, 1, "see(?, 9, 0, 0)").tape("pool exact");
    }

    private static void questions() {
        Refusals all = new Refusals(CHECK, "answering", answering());
        all.rangeOfNone("berth(?)", 0, 11);
        all.rangeOfNone("who(?, 0, 0)", 0, 2);
        all.rangeOfNone("who(2, ?, 0)", 0, 3);
        all.rangeOfNone("who(1, ?, 0)", 0, 3);
        all.rangeOfNone("who(2, 3, ?)", 0, 6);
        all.rangeOfNone("who(1, 1, ?)", 0, 6);
        all.rangeOfNone("aboard(?, 6)", 0, 2);
        all.rangeOfNone("aboard(2, ?)", 0, 6);
        all.rangeOfNone("sitting(?, 11)", 0, 6);
        all.rangeOfNone("sitting(?, 5)", 0, 6);
        all.rangeOfNone("sitting(6, ?)", 0, 11);
        all.rangeOfNone("sitting(3, ?)", 0, 11);
        all.rangeOfNone("miles(?, 24)", 0, 35);
        all.rangeOfNone("miles(35, ?)", 0, 24);
        all.rangeOfNone("steamed(?, 0)", -1, 35);
        all.rangeOfNone("steamed(?, 1)", 0, 35);
        all.rangeOfNone("steamed(35, ?)", 0, 1);
        all.rangeOfNone("steamed(-1, ?)", 0, 0);
        all.rangeOfNone("end(?)", 0, 10);
        all.rangeOfNone("pool(?, 0)", 0, 5);
        all.rangeOfNone("pool(5, ?)", 0, 4);
        all.rangeOfNone("where(?, 35, 35)", 0, 1);
        all.rangeOfNone("where(1, ?, 35)", 0, 35);
        all.rangeOfNone("where(1, 35, ?)", 0, 35);
        all.rangeOfNone("met(?)", 0, 11);
        all.rangeOfNone("count(?)", 0, 7);
        winsOfOthers();
    }

    /** Of a BET that there is not 0, not NONE. */
    private static void winsOfOthers() {
        new Story(CHECK, "answering", answering()).due("wins(0)", 10).due("wins(1)", 0).due("wins(-1)", 0)
            .due("wins(100)", 0).due("wins(LEAST)", 0).due("wins(MOST)", 0);
    }
}
