/** The edges that the first half of Term V and promises 26 to 28 name, each sentence by itself. */
public final class TrunkEdgesTest {
    private static final Check CHECK = new Check();

    public static void main(String[] args) {
        ofPersons();
        firstAndLastOfAll();
        howMany();
        neverSeen();
        knownByThen();
        knownAheadOfIt();
        notBehindThatWatch();
        latestWatchThoughToldFirst();
        alikeOnesTheOneToldLast();
        alikeOnesThatAreKnown();
        sameAgain();
        eachTrunkByItself();
        lastTrunk();
        lastSeen();
        watchesThatAreNone();
        CHECK.finish();
    }

    private static Story story(String title, String... ahead) {
        return new Story(CHECK, title).after("person(0, 0, 1, NONE)", "trunk(0)").after(ahead);
    }

    private static void ofPersons() {
        new Story(CHECK, "of persons").refused("trunk(0)", -2).after("person(0, 0, 1, NONE)").taken("trunk(0)", 0)
            .taken("trunk(0)", 1).refused("trunk(1)", -2).refused("trunk(-1)", -2).due("count(5)", 2)
            .after("person(2, 6, 7, 29)").taken("trunk(1)", 2).due("count(5)", 3);
    }

    private static void firstAndLastOfAll() {
        story("places and watches").taken("see(0, 0, 0, 0)", 1).due("where(0, 0, 0)", 0)
            .taken("see(0, 99, 35, 35)", 2).due("where(0, 35, 35)", 99).refused("see(0, 100, 0, 0)", -1)
            .refused("see(0, -1, 0, 0)", -1).refused("see(0, 0, 36, 0)", -1).refused("see(0, 0, -1, 0)", -1)
            .refused("see(0, 0, 0, 36)", -1).refused("see(0, 0, 0, -1)", -1).refused("see(1, 0, 0, 0)", -2)
            .refused("see(-1, 0, 0, 0)", -2).due("count(6)", 2).due("where(0, 35, 35)", 99);
    }

    private static void howMany() {
        story("how many in all", "trunk(0)").taken("see(0, 5, 5, 5)", 1).taken("see(1, 5, 5, 5)", 2)
            .taken("see(0, 5, 5, 5)", 3).refused("see(0, 100, 5, 5)", -1).taken("see(0, 5, 5, 5)", 4)
            .due("count(6)", 4);
    }

    private static void neverSeen() {
        story("never SEEN", "trunk(0)", "see(1, 7, 0, 0)").due("where(0, 35, 35)", -1).due("where(0, 0, 0)", -1)
            .due("where(2, 35, 35)", -1).due("where(1, 35, 35)", 7);
    }

    private static void knownByThen() {
        story("known from a WATCH on", "see(0, 7, 3, 20)").due("where(0, 3, 19)", -1).due("where(0, 3, 20)", 7)
            .due("where(0, 3, 21)", 7).due("where(0, 35, 19)", -1).due("where(0, 35, 20)", 7);
    }

    private static void knownAheadOfIt() {
        story("known ahead of the WATCH itself", "see(0, 7, 20, 3)").due("where(0, 20, 2)", -1)
            .due("where(0, 20, 3)", 7).due("where(0, 19, 35)", -1).due("where(0, 20, 35)", 7);
    }

    private static void notBehindThatWatch() {
        story("not behind that WATCH", "see(0, 7, 20, 0)", "see(0, 8, 22, 0)").due("where(0, 19, 0)", -1)
            .due("where(0, 20, 0)", 7).due("where(0, 21, 0)", 7).due("where(0, 22, 0)", 8).due("where(0, 35, 0)", 8);
    }

    private static void latestWatchThoughToldFirst() {
        story("of the latest WATCH", "see(0, 7, 22, 0)", "see(0, 8, 21, 0)", "see(0, 9, 0, 0)").due("where(0, 35, 0)", 7)
            .due("where(0, 22, 0)", 7).due("where(0, 21, 0)", 8).due("where(0, 20, 0)", 9).due("where(0, 0, 0)", 9);
    }

    private static void alikeOnesTheOneToldLast() {
        story("told last", "see(0, 7, 22, 5)", "see(0, 8, 22, 5)").due("where(0, 22, 5)", 8)
            .after("see(0, 6, 22, 0)").due("where(0, 22, 5)", 6).after("see(0, 5, 21, 0)").due("where(0, 22, 5)", 6)
            .after("see(0, 4, 0, 0)", "see(0, 3, 0, 0)").due("where(0, 0, 35)", 3);
    }

    private static void alikeOnesThatAreKnown() {
        story("told last of those known", "see(0, 7, 22, 5)", "see(0, 8, 22, 6)").due("where(0, 22, 5)", 7)
            .due("where(0, 22, 6)", 8).due("where(0, 22, 4)", -1);
        story("an earlier one, if the latest is not known", "see(0, 7, 22, 9)", "see(0, 8, 21, 6)")
            .due("where(0, 22, 8)", 8).due("where(0, 22, 9)", 7);
    }

    private static void sameAgain() {
        story("the same told again", "see(0, 7, 22, 5)", "see(0, 8, 22, 5)", "see(0, 7, 22, 5)")
            .due("where(0, 22, 5)", 7).due("count(6)", 3);
    }

    private static void eachTrunkByItself() {
        story("each by itself", "trunk(0)", "see(0, 7, 5, 5)", "see(1, 8, 6, 5)").due("where(0, 35, 35)", 7)
            .due("where(1, 35, 35)", 8).due("where(1, 5, 35)", -1);
    }

    private static void lastTrunk() {
        Script script = new Script().then("person(0, 0, 1, NONE)").times(40, "trunk(0)");
        new Story(CHECK, "TRUNK 39", script).taken("see(39, 7, 5, 5)", 1).due("where(39, 5, 5)", 7)
            .due("where(38, 5, 5)", -1).due("where(40, 5, 5)", -1).refused("see(40, 7, 5, 5)", -2)
            .refused("trunk(0)", -5).due("count(5)", 40);
    }

    private static void lastSeen() {
        Script script = new Script().then("person(0, 0, 1, NONE)", "trunk(0)").times(199, "see(0, 7, 5, 5)");
        new Story(CHECK, "the 200th SEEN", script).taken("see(0, 8, 5, 5)", 200).due("where(0, 5, 5)", 8)
            .refused("see(0, 9, 5, 5)", -5).due("where(0, 5, 5)", 8).due("count(6)", 200);
    }

    private static void watchesThatAreNone() {
        story("no such WATCH", "see(0, 7, 0, 0)").due("where(0, -1, 35)", -1).due("where(0, 36, 35)", -1)
            .due("where(0, 35, -1)", -1).due("where(0, 35, 36)", -1).due("where(0, MOST, MOST)", -1)
            .due("where(0, LEAST, LEAST)", -1).due("where(-1, 35, 35)", -1).due("where(MOST, 35, 35)", -1)
            .due("where(0, 35, 35)", 7);
    }
}
