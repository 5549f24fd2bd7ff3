/**
 * "REFUSED by .. The first of these in that order": where there is nothing yet, where all is full, and where there
 * are two grounds at once; each with what status() says, and that nothing else has changed.
 */
public final class RefusalTest {
    private static final Check CHECK = new Check();

    public static void main(String[] args) {
        nothingYet();
        nothingYetToAsk();
        fullOfCabins();
        fullOfPeople();
        fullOfBets();
        fullOfTrunks();
        fullOfSeen();
        fullTape();
        fullOfGroups();
        noBerth();
        hasBerth();
        hasNone();
        cannotBeMade();
        textThatCannotBe();
        wrongAheadOfNotThere();
        wrongAheadOfCannotBe();
        notThereAheadOfBerth();
        statusOfTheLatest();
        CHECK.finish();
    }

    private static Refusals behind(String title, Script script) {
        return new Refusals(CHECK, title, script);
    }

    private static void nothingYet() {
        Refusals empty = behind("nothing yet", new Script());
        empty.refused("book(0)", -2);
        empty.refused("cancel(0)", -2);
        empty.refused("wish(0, 0)", -2);
        empty.refused("wish(0, NONE)", -2);
        empty.refused("bet(0, 0, 0, 0, 0)", -2);
        empty.refused("trunk(0)", -2);
        empty.refused("see(0, 0, 0, 0)", -2);
        empty.refused("ill(0, 0)", -2);
        empty.refused("ill(0, NONE)", -2);
        empty.refused("run(1, 0, 1, 0, 0)", -6);
        empty.taken("dine(0, 0)");
        empty.taken("rules()");
        empty.taken("day(0, NONE)");
        empty.none("end(1)");
        empty.none("end(-1)");
    }

    private static void nothingYetToAsk() {
        Story empty = new Story(CHECK, "nothing yet");
        empty.due("status()", 0).due("fault()", -1).due("berth(0)", -1).due("who(0, 0, 0)", -1).due("sitting(0, 0)", -1)
            .due("steamed(0, 0)", -1).due("steamed(0, 1)", -1).due("steamed(-1, 0)", -1).due("wins(0)", 0)
            .due("where(0, 0, 0)", -1).due("met(0)", -1).due("end(0)", 0).due("miles(0, 24)", 96)
            .due("miles(35, 1)", 4);
        for (int n = 0; n < 8; n++) {
            empty.due("count(" + n + ")", 0);
        }
        for (int pool = 0; pool < 6; pool++) {
            empty.due("pool(" + pool + ", 0)", -1);
        }
        for (int leg = 0; leg < 7; leg++) {
            empty.due("aboard(0, " + leg + ")", 0).due("aboard(2, " + leg + ")", 0).due("dine(" + leg + ", 1)", 0);
        }
        empty.status("all of it", 0);
    }

    private static void fullOfCabins() {
        Script full = new Script().times(20, "cabin(2, 1)").each(0, 0, "person(2, 0, 7, ?)");
        new Story(CHECK, "19 cabins", new Script().times(19, "cabin(2, 1)")).taken("cabin(0, 1)", 19);
        Refusals refusals = behind("20 cabins", full);
        refusals.refused("cabin(2, 1)", -5);
        refusals.refused("cabin(0, 4)", -5);
        refusals.refused("cabin(3, 1)", -1);
        refusals.refused("cabin(-1, 1)", -1);
        refusals.refused("cabin(2, 0)", -1);
        refusals.refused("cabin(2, 5)", -1);
        refusals.refused("cabin(MOST, LEAST)", -1);
        refusals.taken("person(2, 0, 7, 0)");
        refusals.taken("book(0)");
    }

    private static void fullOfPeople() {
        Script full = new Script().then("cabin(0, 1)").times(100, "person(0, 0, 7, 29)");
        new Story(CHECK, "99 people", new Script().times(99, "person(0, 0, 7, 29)")).taken("person(2, 6, 7, 0)", 99);
        Refusals refusals = behind("100 people", full);
        refusals.refused("person(0, 0, 7, 29)", -5);
        refusals.refused("person(2, 6, 7, NONE)", -5);
        refusals.refused("person(3, 0, 7, 0)", -1);
        refusals.refused("person(0, 7, 7, 0)", -1);
        refusals.refused("person(0, 0, 8, 0)", -1);
        refusals.refused("person(0, 0, 7, 30)", -1);
        refusals.refused("person(0, 0, 7, -2)", -1);
        refusals.refused("book(100)", -2);
        refusals.refused("cancel(100)", -2);
        refusals.refused("wish(100, 0)", -2);
        refusals.refused("ill(100, 0)", -2);
        refusals.refused("trunk(100)", -2);
        refusals.refused("bet(0, 100, 0, 0, 0)", -2);
        refusals.taken("book(99)");
        refusals.taken("wish(99, 0)");
        refusals.taken("ill(99, 0)");
        refusals.taken("trunk(99)");
        refusals.taken("bet(0, 99, 0, 0, 0)");
    }

    private static void fullOfBets() {
        Script person = new Script().then("person(0, 0, 7, NONE)");
        Script full = new Script().then(person).times(100, "bet(0, 0, 5, 10000, 0)").then("day(0, 5)");
        new Story(CHECK, "99 bets", new Script().then(person).times(99, "bet(0, 0, 5, 10000, 0)"))
            .taken("bet(5, 0, 1000, 0, 35)", 99);
        Refusals refusals = behind("100 bets", full);
        refusals.refused("bet(0, 0, 5, 10000, 0)", -5);
        // One hundred in all, not of each POOL.
        refusals.refused("bet(5, 0, 0, 0, 0)", -5);
        refusals.refused("bet(0, 1, 5, 10000, 0)", -2);
        refusals.refused("bet(0, NONE, 5, 10000, 0)", -2);
        refusals.refused("bet(6, 0, 5, 10000, 0)", -1);
        refusals.refused("bet(6, 1, 5, 10000, 0)", -1);
        refusals.refused("bet(0, 1, 1001, 10000, 0)", -1);
        refusals.refused("bet(0, 1, 5, 10001, 0)", -1);
        refusals.refused("bet(0, 1, 5, 10000, 36)", -1);
        refusals.taken("day(0, 6)");
    }

    private static void fullOfTrunks() {
        Script person = new Script().then("person(0, 0, 7, NONE)");
        new Story(CHECK, "39 trunks", new Script().then(person).times(39, "trunk(0)")).taken("trunk(0)", 39);
        Refusals refusals = behind("40 trunks", new Script().then(person).times(40, "trunk(0)"));
        refusals.refused("trunk(0)", -5);
        refusals.refused("trunk(1)", -2);
        refusals.refused("trunk(NONE)", -2);
        refusals.refused("trunk(MOST)", -2);
        refusals.refused("see(40, 0, 0, 0)", -2);
        refusals.taken("see(39, 0, 0, 0)");
    }

    private static void fullOfSeen() {
        Script ahead = new Script().then("person(0, 0, 7, NONE)", "trunk(0)", "trunk(0)");
        new Story(CHECK, "199 seen", new Script().then(ahead).times(199, "see(0, 7, 20, 20)"))
            .taken("see(1, 8, 20, 20)", 200).due("where(1, 20, 20)", 8);
        Refusals refusals = behind("200 seen", new Script().then(ahead).times(200, "see(0, 7, 20, 20)"));
        refusals.refused("see(0, 8, 20, 20)", -5);
        // Two hundred in all, not of each TRUNK.
        refusals.refused("see(1, 8, 20, 20)", -5);
        refusals.refused("see(2, 8, 20, 20)", -2);
        refusals.refused("see(NONE, 8, 20, 20)", -2);
        refusals.refused("see(2, 100, 20, 20)", -1);
        refusals.refused("see(2, 8, 36, 20)", -1);
        refusals.refused("see(2, 8, 20, -1)", -1);
        refusals.refused("see(0, -1, 20, 20)", -1);
        refusals.taken("trunk(0)");
    }

    private static void fullTape() {
        String blanks = "feed(538976288, 538976288, 538976288, 538976288, 538976288)";
        behind("180 bytes", new Script().times(9, blanks)).taken(blanks);
        new Story(CHECK, "180 bytes", new Script().times(9, blanks)).due(blanks, 200).due("count(7)", 200);
        Refusals full = behind("200 bytes", new Script().then("cabin(0, 1)").times(10, blanks));
        full.none(blanks);
        full.none("feed(0, 0, 0, 0, 0)");
        full.none("feed(LEAST, MOST, LEAST, MOST, LEAST)");
        full.none("end(201)");
        Refusals over = behind("181 bytes", new Script().times(10, blanks).then("end(181)"));
        over.none(blanks);
        over.none("end(182)");
    }

    private static Script elevenAlone() {
        return new Script().times(3, "cabin(0, 4)").times(11, "person(0, 0, 7, NONE)").each(0, 9, "book(?)")
            .then("seats(0, 3, 3, 3)", "dine(2, 0)", "seats(0, 0, 100, 0)", "book(10)");
    }

    private static void fullOfGroups() {
        Refusals refusals = behind("11 groups", elevenAlone());
        refusals.refused("dine(2, 0)", -5);
        refusals.refused("dine(3, 0)", -5);
        refusals.refused("dine(7, 0)", -1);
        refusals.refused("dine(-1, 0)", -1);
        refusals.refused("dine(2, 3)", -1);
        refusals.refused("dine(2, -1)", -1);
        refusals.taken("dine(2, 1)");
        new Story(CHECK, "the dining of ten stays", elevenAlone()).refused("dine(2, 0)", -5).due("sitting(2, 0)", 0)
            .due("sitting(2, 8)", 2).due("sitting(2, 9)", -1).due("sitting(2, 10)", -1)
            .taken("cancel(5)", 0).taken("dine(2, 0)", 10).due("sitting(2, 10)", 1).due("sitting(2, 5)", -1);
    }

    private static void noBerth() {
        Script full = new Script().then("cabin(0, 1)", "cabin(1, 4)").times(2, "person(0, 0, 7, 3)").then("book(0)");
        Refusals refusals = behind("no berth", full);
        refusals.refused("book(1)", -3);
        refusals.refused("book(2)", -2);
        behind("no cabin", new Script().then("person(0, 0, 1, NONE)")).refused("book(0)", -3);
    }

    private static void hasBerth() {
        Script roomy = new Script().then("cabin(0, 4)", "person(0, 0, 7, 3)", "book(0)");
        behind("has one", roomy).refused("book(0)", -3);
    }

    private static void hasNone() {
        Script roomy = new Script().then("cabin(0, 4)", "person(0, 0, 7, 3)");
        Refusals never = behind("never had one", roomy);
        never.refused("cancel(0)", -3);
        never.refused("cancel(1)", -2);
        behind("gave it back", new Script().then(roomy).then("book(0)", "cancel(0)")).refused("cancel(0)", -3);
    }

    private static void cannotBeMade() {
        Refusals voyage = behind("voyage", NumbersTest.voyage());
        voyage.refused("run(193, 0, 1, 0, 24)", -6);
        voyage.taken("run(192, 0, 1, 0, 24)");
        voyage.refused("run(1, 0, 35, 0, 0)", -6);
        voyage.refused("run(97, 34, 35, 0, 24)", -6);
        voyage.taken("run(96, 34, 35, 0, 24)");
    }

    private static void textThatCannotBe() {
        new Story(CHECK, "voyage", NumbersTest.voyage()).due("pool(0, 0)", 110).due("pool(0, 1)", 11)
            .after("end(0)").fault("close 36", 6).due("count(3)", 4).due("count(7)", 0)
            .due("pool(0, 0)", 110).due("pool(0, 1)", 11).due("wins(0)", 99)
            .rules("seamen 0", 1).due("pool(0, 1)", 0).due("count(3)", 1);
    }

    private static void wrongAheadOfNotThere() {
        Refusals voyage = behind("voyage", NumbersTest.voyage());
        voyage.refused("wish(8, 3)", -1);
        voyage.refused("wish(-1, -2)", -1);
        voyage.refused("wish(MOST, MOST)", -1);
        voyage.refused("ill(8, 7)", -1);
        voyage.refused("ill(-1, -2)", -1);
        voyage.refused("ill(LEAST, LEAST)", -1);
        voyage.refused("bet(-1, 8, 0, 0, 0)", -1);
        voyage.refused("bet(0, 8, -1, 0, 0)", -1);
        voyage.refused("bet(0, 8, 0, -1, 0)", -1);
        voyage.refused("bet(0, 8, 0, 0, -1)", -1);
        voyage.refused("bet(MOST, MOST, MOST, MOST, MOST)", -1);
        voyage.refused("see(2, -1, 0, 0)", -1);
        voyage.refused("see(2, 0, -1, 0)", -1);
        voyage.refused("see(2, 0, 0, 36)", -1);
        voyage.refused("see(LEAST, LEAST, LEAST, LEAST)", -1);
    }

    private static void wrongAheadOfCannotBe() {
        Refusals voyage = behind("voyage", NumbersTest.voyage());
        voyage.refused("run(3001, 0, 35, 0, 0)", -1);
        voyage.refused("run(3000, 0, 36, 0, 0)", -1);
        voyage.refused("run(3000, 1, 0, 0, 0)", -1);
        voyage.refused("run(3000, 0, 1, 1, 0)", -1);
        voyage.refused("run(3000, 0, 1, 0, 25)", -1);
        voyage.refused("run(MOST, MOST, MOST, MOST, MOST)", -1);
    }

    private static void notThereAheadOfBerth() {
        Script alone = new Script().then("person(0, 0, 1, NONE)");
        Refusals refusals = behind("no cabin at all", alone);
        refusals.refused("book(1)", -2);
        refusals.refused("book(-1)", -2);
        refusals.refused("cancel(1)", -2);
        refusals.refused("cancel(-1)", -2);
    }

    /** A refused call behind another: the latest tells; and calls without codes tell nothing. */
    private static void statusOfTheLatest() {
        new Story(CHECK, "status", NumbersTest.voyage()).status("what was not refused", 0)
            .refused("cabin(3, 1)", -1).refused("book(8)", -2).refused("book(0)", -3)
            .refused("run(193, 0, 1, 0, 24)", -6).due("aboard(3, 0)", -1).due("berth(8)", -1).due("who(9, 0, 0)", -1)
            .due("sitting(7, 0)", -1).due("miles(36, 0)", -1).due("steamed(36, 0)", -1).due("end(99)", -1)
            .due("pool(6, 0)", -1).due("where(9, 0, 0)", -1).due("met(8)", -1).due("count(8)", -1).due("fault()", -1)
            .due("feed(0, 0, 0, 0, 0)", 38).due("end(18)", 18).due("wins(0)", 99).due("status()", -6)
            .status("calls that have no codes", -6).taken("wish(1, 0)", -1).refused("wish(1, 3)", -1)
            .taken("wish(1, NONE)", 0).refused("wish(8, 0)", -2).taken("day(5, NONE)", 0);
    }
}
