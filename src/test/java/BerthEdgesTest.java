/** The edges that Term I and promises 1 to 8 name, each sentence by itself. */
public final class BerthEdgesTest {
    private static final Check CHECK = new Check();

    public static void main(String[] args) {
        allPortsAndLegs();
        wayOfOneLeg();
        nobodyHasItOnALegOfTheWay();
        oneLegIsEnoughToTakeIt();
        lowestFreeBerth();
        berthsOfTheCabinAlone();
        sameParty();
        partyZeroIsNotAlone();
        lastParty();
        aloneWithAlone();
        onEachLegOfTheWay();
        onlyThenCounts();
        oneOfThePartyOnSomeLeg();
        partyBehindTheWay();
        partyWithoutFreeBerth();
        partyWhereItDoesNotSuit();
        lowestOfSeveral();
        notForThoseAlone();
        ofTheClass();
        lastCabinLastBerth();
        lastPerson();
        bookedAgain();
        hasOneThoughThereIsRoom();
        whoAheadAndBehind();
        aboardCountsBerthsAlone();
        twoObjects();
        CHECK.finish();
    }

    private static Story story(String title, String... ahead) {
        return new Story(CHECK, title).after(ahead);
    }

    private static void allPortsAndLegs() {
        Story x = story("from port 0 to port 7", "cabin(0, 1)", "person(0, 0, 7, NONE)").taken("book(0)", 0);
        for (int leg = 0; leg < 7; leg++) {
            x.due("who(0, 0, " + leg + ")", 0).due("aboard(0, " + leg + ")", 1);
        }
        x.due("who(0, 0, 7)", -1).due("who(0, 0, -1)", -1).due("aboard(0, 7)", -1).due("aboard(0, -1)", -1);
    }

    private static void wayOfOneLeg() {
        Story first = story("the first leg", "cabin(0, 1)", "person(0, 0, 1, NONE)", "book(0)");
        Story last = story("the last leg", "cabin(0, 1)", "person(0, 6, 7, NONE)", "book(0)");
        for (int leg = 0; leg < 7; leg++) {
            first.due("who(0, 0, " + leg + ")", leg == 0 ? 0 : -1).due("aboard(0, " + leg + ")", leg == 0 ? 1 : 0);
            last.due("who(0, 0, " + leg + ")", leg == 6 ? 0 : -1).due("aboard(0, " + leg + ")", leg == 6 ? 1 : 0);
        }
        first.refused("person(0, 0, 0, NONE)", -1).refused("person(0, 7, 7, NONE)", -1)
            .refused("person(0, 7, 6, NONE)", -1).refused("person(0, 7, 8, NONE)", -1)
            .refused("person(0, 1, 0, NONE)", -1).due("count(1)", 1);
    }

    private static void nobodyHasItOnALegOfTheWay() {
        story("one leaves where the next comes", "cabin(0, 1)", "person(0, 2, 4, 1)", "person(0, 0, 2, 1)",
            "person(0, 4, 7, 1)").taken("book(0)", 0).taken("book(1)", 0).taken("book(2)", 0)
            .due("who(0, 0, 1)", 1).due("who(0, 0, 2)", 0).due("who(0, 0, 3)", 0).due("who(0, 0, 4)", 2);
    }

    private static void oneLegIsEnoughToTakeIt() {
        story("one leg in common", "cabin(0, 1)", "person(0, 2, 4, 1)", "person(0, 0, 3, 1)", "person(0, 3, 7, 1)",
            "person(0, 0, 7, 1)", "person(0, 3, 4, 1)", "book(0)").refused("book(1)", -3).refused("book(2)", -3)
            .refused("book(3)", -3).refused("book(4)", -3).due("count(2)", 1);
    }

    private static void lowestFreeBerth() {
        story("free on all legs of the way, not on some", "cabin(0, 4)", "person(0, 0, 1, 1)", "person(0, 0, 7, 1)",
            "person(0, 1, 7, 1)", "person(0, 0, 2, 1)", "person(0, 2, 7, 1)", "person(0, 0, 7, 1)")
            .taken("book(0)", 0).taken("book(1)", 1).taken("book(2)", 0).taken("book(3)", 2).taken("book(4)", 2)
            .taken("book(5)", 3).taken("cancel(1)", 0).taken("book(1)", 1);
    }

    private static void berthsOfTheCabinAlone() {
        for (int berths = 1; berths <= 4; berths++) {
            Story x = story(berths + " berths", "cabin(0, " + berths + ")");
            for (int p = 0; p < berths; p++) {
                x.after("person(0, 0, 7, 2)").taken("book(" + p + ")", p);
            }
            x.after("person(0, 0, 7, 2)").refused("book(" + berths + ")", -3);
            for (int berth = 0; berth < 5; berth++) {
                x.due("who(0, " + berth + ", 3)", berth < berths ? berth : -1);
            }
        }
    }

    private static void sameParty() {
        story("another party", "cabin(0, 2)", "person(0, 0, 7, 4)", "person(0, 0, 7, 5)", "person(0, 0, 7, 4)",
            "book(0)").refused("book(1)", -3).taken("book(2)", 1);
    }

    private static void partyZeroIsNotAlone() {
        story("party 0 is one", "cabin(0, 3)", "person(0, 0, 7, 0)", "person(0, 0, 7, NONE)", "person(0, 0, 7, 0)")
            .taken("book(0)", 0).refused("book(1)", -3).taken("book(2)", 1);
        story("alone is not party 0", "cabin(0, 3)", "person(0, 0, 7, NONE)", "person(0, 0, 7, 0)",
            "person(0, 0, 7, NONE)").taken("book(0)", 0).refused("book(1)", -3).taken("book(2)", 1);
    }

    private static void lastParty() {
        story("party 29", "cabin(0, 1)", "cabin(0, 3)", "person(0, 0, 3, 28)", "person(0, 0, 7, 29)",
            "person(0, 2, 7, 29)", "person(0, 3, 7, 28)", "person(0, 0, 1, 0)").taken("book(0)", 0).taken("book(1)", 4)
            .taken("book(2)", 5).taken("book(3)", 0).refused("book(4)", -3);
    }

    private static void aloneWithAlone() {
        story("those alone share", "cabin(0, 2)", "person(0, 0, 7, NONE)", "person(0, 0, 7, NONE)",
            "person(0, 6, 7, NONE)").taken("book(0)", 0).taken("book(1)", 1).refused("book(2)", -3);
    }

    private static void onEachLegOfTheWay() {
        story("another party on the first, the last, a middle leg", "cabin(0, 4)", "person(0, 2, 3, 8)", "book(0)",
            "person(0, 2, 5, 9)", "person(0, 0, 3, 9)", "person(0, 0, 7, 9)", "person(0, 0, 2, 9)",
            "person(0, 3, 7, 9)").refused("book(1)", -3).refused("book(2)", -3).refused("book(3)", -3)
            .taken("book(4)", 0).taken("book(5)", 0);
    }

    private static void onlyThenCounts() {
        story("parties on other legs do not count", "cabin(0, 2)", "person(0, 0, 1, 3)", "person(0, 1, 2, NONE)",
            "person(0, 2, 3, 4)", "person(0, 3, 7, 5)", "person(0, 1, 2, NONE)", "person(0, 1, 3, NONE)")
            .taken("book(0)", 0).taken("book(1)", 0).taken("book(2)", 0).taken("book(3)", 0).taken("book(4)", 1)
            .refused("book(5)", -3);
    }

    /** Of two CABINS the second has one of the PARTY on the legs told; the first is empty. */
    private static Story secondHas(String title, int from, int to) {
        return story(title, "cabin(0, 3)", "cabin(0, 3)", "person(0, 0, 7, 1)", "book(0)",
            "person(0, " + from + ", " + to + ", 2)", "book(1)", "cancel(0)");
    }

    private static void oneOfThePartyOnSomeLeg() {
        secondHas("on the last leg of the way", 4, 6).after("person(0, 0, 5, 2)").taken("book(2)", 5);
        secondHas("on the first leg of the way", 4, 6).after("person(0, 5, 7, 2)").taken("book(2)", 5);
        secondHas("on one leg in the middle", 3, 4).after("person(0, 0, 7, 2)").taken("book(2)", 5);
        secondHas("on more legs than the way", 0, 7).after("person(0, 3, 4, 2)").taken("book(2)", 5);
    }

    private static void partyBehindTheWay() {
        secondHas("on the leg behind the way", 4, 6).after("person(0, 0, 4, 2)").taken("book(2)", 0);
        secondHas("on the leg ahead of the way", 4, 6).after("person(0, 6, 7, 2)").taken("book(2)", 0);
    }

    private static void partyWithoutFreeBerth() {
        story("where the party is, all is taken: the lowest that suits", "cabin(0, 1)", "cabin(0, 1)", "cabin(0, 1)",
            "person(0, 0, 7, 1)", "book(0)", "person(0, 0, 7, 2)", "book(1)", "person(0, 6, 7, 2)", "person(0, 6, 7, 2)")
            .taken("book(2)", 8).refused("book(3)", -3);
        story("taken on one leg of the way is taken", "cabin(0, 1)", "cabin(0, 1)", "person(0, 0, 1, 7)", "book(0)",
            "person(0, 0, 1, 2)", "book(1)", "cancel(0)", "person(0, 0, 7, 2)").taken("book(2)", 0);
    }

    private static void partyWhereItDoesNotSuit() {
        story("the party on one leg, others on another", "cabin(0, 2)", "cabin(0, 2)", "person(0, 0, 1, 2)", "book(0)",
            "person(0, 3, 4, 6)", "book(1)", "person(0, 0, 7, 2)", "person(0, 0, 3, 2)", "person(0, 4, 7, 2)")
            .taken("book(2)", 4).taken("book(3)", 1).taken("book(4)", 5);
    }

    private static void lowestOfSeveral() {
        story("the lowest of those with the party", "cabin(0, 1)", "cabin(0, 2)", "cabin(0, 2)", "person(0, 0, 7, 5)",
            "person(0, 0, 7, 6)", "person(0, 0, 7, 6)", "person(0, 0, 2, 6)", "person(0, 2, 4, 6)",
            "book(0)", "book(1)", "book(2)", "book(3)").due("berth(3)", 8).taken("cancel(2)", 0).taken("book(4)", 5)
            .taken("cancel(4)", 0).taken("cancel(1)", 0).taken("book(4)", 4).taken("cancel(0)", 0)
            .after("person(0, 0, 7, 6)").taken("book(5)", 5);
    }

    private static void notForThoseAlone() {
        story("the lowest that suits, though one alone is in a higher one", "cabin(0, 2)", "cabin(0, 2)",
            "person(0, 0, 7, 3)", "book(0)", "person(0, 0, 7, NONE)", "book(1)", "cancel(0)", "person(0, 0, 7, NONE)")
            .due("berth(1)", 4).taken("book(2)", 0);
    }

    private static void ofTheClass() {
        story("cabins of other classes", "cabin(1, 4)", "cabin(2, 4)", "cabin(0, 4)", "person(2, 0, 7, 3)",
            "person(0, 0, 7, 3)", "person(1, 0, 7, 3)", "person(1, 0, 7, 3)").taken("book(0)", 4).taken("book(1)", 8)
            .taken("book(2)", 0).taken("book(3)", 1).due("aboard(0, 0)", 1).due("aboard(1, 0)", 2)
            .due("aboard(2, 6)", 1);
        story("none of the class", "cabin(1, 4)", "cabin(2, 4)", "person(0, 0, 7, 3)").refused("book(0)", -3);
    }

    private static void lastCabinLastBerth() {
        Script full = new Script().times(20, "cabin(0, 4)").times(81, "person(0, 0, 7, NONE)").each(0, 79, "book(?)");
        new Story(CHECK, "eighty berths", full).due("berth(79)", 79).due("who(19, 3, 6)", 79).due("who(19, 3, 0)", 79)
            .due("who(20, 0, 0)", -1).due("who(19, 4, 0)", -1).due("aboard(0, 3)", 80).due("count(2)", 80)
            .refused("book(80)", -3).taken("cancel(79)", 0).taken("book(80)", 79).due("who(19, 3, 6)", 80)
            .due("count(2)", 80).refused("book(79)", -3);
    }

    private static void lastPerson() {
        Script full = new Script().then("cabin(2, 1)").times(100, "person(2, 6, 7, 29)");
        new Story(CHECK, "person 99", full).taken("book(99)", 0).due("berth(99)", 0).due("who(0, 0, 6)", 99)
            .due("berth(100)", -1).refused("book(100)", -2).taken("cancel(99)", 0).due("berth(99)", -1)
            .refused("cancel(99)", -3).refused("cancel(100)", -2);
    }

    private static void bookedAgain() {
        story("given back on all legs", "cabin(0, 1)", "person(0, 0, 7, 1)", "person(0, 0, 1, 2)", "person(0, 6, 7, 3)",
            "book(0)").refused("book(1)", -3).refused("book(2)", -3).taken("cancel(0)", 0).due("berth(0)", -1)
            .due("count(2)", 0).taken("book(1)", 0).taken("book(2)", 0).refused("book(0)", -3).due("count(2)", 2)
            .taken("cancel(1)", 0).due("who(0, 0, 6)", 2).due("who(0, 0, 0)", -1);
    }

    private static void hasOneThoughThereIsRoom() {
        story("has one", "cabin(0, 2)", "cabin(0, 2)", "person(0, 0, 1, 1)").taken("book(0)", 0).refused("book(0)", -3)
            .due("berth(0)", 0).due("count(2)", 1).due("who(0, 1, 0)", -1).due("who(1, 0, 0)", -1);
    }

    private static void whoAheadAndBehind() {
        story("from port 2 to port 5", "cabin(1, 2)", "person(1, 2, 5, 1)", "book(0)").due("who(0, 0, 1)", -1)
            .due("who(0, 0, 2)", 0).due("who(0, 0, 4)", 0).due("who(0, 0, 5)", -1).due("who(0, 1, 2)", -1)
            .due("aboard(1, 1)", 0).due("aboard(1, 2)", 1).due("aboard(1, 4)", 1).due("aboard(1, 5)", 0)
            .due("aboard(0, 3)", 0);
    }

    private static void aboardCountsBerthsAlone() {
        story("people without berths", "cabin(0, 1)", "person(0, 0, 7, NONE)", "person(0, 0, 7, NONE)")
            .due("aboard(0, 0)", 0).taken("book(1)", 0).due("aboard(0, 0)", 1).refused("book(0)", -3)
            .due("aboard(0, 0)", 1).due("count(1)", 2).due("count(2)", 1);
    }

    private static void twoObjects() {
        story("one object", "cabin(0, 1)", "person(0, 0, 7, NONE)", "book(0)").due("count(2)", 1);
        story("another knows nothing of it").due("count(0)", 0).due("count(1)", 0).due("berth(0)", -1)
            .due("who(0, 0, 0)", -1);
    }
}
