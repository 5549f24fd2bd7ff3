/** The edges that the second half of Term V and promises 29 and 30 name, each sentence by itself. */
public final class SicknessEdgesTest {
    private static final Check CHECK = new Check();

    public static void main(String[] args) {
        nobodyIsIllAtFirst();
        fromALegOn();
        firstAndLastLeg();
        illToldAgain();
        notIllAnyMore();
        notByItself();
        byOneThatIsIllToo();
        onALegOnWhichThatOneIs();
        sameBerthOnOtherLegs();
        otherCabins();
        withoutBerths();
        atOneSitting();
        notAtNone();
        dinedAheadOfTheIllness();
        asMadeLatest();
        sittingsOfOtherClasses();
        notMadeForThatLeg();
        notHandedOn();
        lastPerson();
        nobody();
        CHECK.finish();
    }

    private static Story story(String title, String... ahead) {
        return new Story(CHECK, title).after(ahead);
    }

    /** Two in one CABIN, on all LEGS. */
    private static Story two(String title) {
        return story(title, "cabin(0, 4)", "person(0, 0, 7, 2)", "person(0, 0, 7, 2)", "book(0)", "book(1)");
    }

    /** So many in CABINS of their own, on all LEGS. */
    private static Story apart(String title, int people) {
        return new Story(CHECK, title, new Script().times(people, "cabin(0, 1)").times(people, "person(0, 0, 7, NONE)")
            .each(0, people - 1, "book(?)"));
    }

    private static void nobodyIsIllAtFirst() {
        two("nobody is ILL").due("met(0)", 0).due("met(1)", 0).taken("ill(0, NONE)", 0).due("met(1)", 0);
    }

    private static void fromALegOn() {
        for (int leg = 0; leg < 7; leg++) {
            story("ILL from leg " + leg + ", together up to leg 3", "cabin(0, 2)", "person(0, 0, 7, 2)",
                "person(0, 0, 4, 2)", "book(0)", "book(1)").taken("ill(0, " + leg + ")", 0)
                .due("met(1)", leg <= 3 ? 1 : 0).due("met(0)", 0);
        }
    }

    private static void firstAndLastLeg() {
        two("leg 0 and leg 6").taken("ill(0, 6)", 0).due("met(1)", 1).taken("ill(0, 0)", 0).due("met(1)", 1)
            .refused("ill(0, 7)", -1).refused("ill(0, -2)", -1).due("met(1)", 1);
        story("together on the last leg alone", "cabin(0, 2)", "person(0, 0, 7, 2)", "person(0, 6, 7, 2)", "book(0)",
            "book(1)", "ill(0, 6)").due("met(1)", 1);
        story("together on the first leg alone", "cabin(0, 2)", "person(0, 0, 7, 2)", "person(0, 0, 1, 2)", "book(0)",
            "book(1)", "ill(0, 0)").due("met(1)", 1).after("ill(0, 1)").due("met(1)", 0);
    }

    private static void illToldAgain() {
        story("the latest counts", "cabin(0, 2)", "person(0, 0, 7, 2)", "person(0, 0, 4, 2)", "book(0)", "book(1)")
            .taken("ill(0, 2)", 0).due("met(1)", 1).taken("ill(0, 5)", 0).due("met(1)", 0).taken("ill(0, 3)", 0)
            .due("met(1)", 1).refused("ill(0, 7)", -1).due("met(1)", 1);
    }

    private static void notIllAnyMore() {
        two("NONE: not").taken("ill(0, 0)", 0).due("met(1)", 1).taken("ill(0, NONE)", 0).due("met(1)", 0)
            .taken("ill(0, NONE)", 0).refused("ill(2, NONE)", -2).due("met(1)", 0);
    }

    private static void notByItself() {
        two("not by itself").taken("ill(0, 0)", 0).due("met(0)", 0).taken("cancel(1)", 0).due("met(0)", 0);
    }

    private static void byOneThatIsIllToo() {
        two("both are ILL").after("ill(0, 3)", "ill(1, 6)").due("met(0)", 1).due("met(1)", 1).after("ill(1, NONE)")
            .due("met(0)", 0).due("met(1)", 1);
    }

    private static void onALegOnWhichThatOneIs() {
        story("ILL behind the way", "cabin(0, 2)", "person(0, 0, 3, 2)", "person(0, 0, 7, 2)", "book(0)", "book(1)",
            "ill(0, 3)").due("met(1)", 0).after("ill(0, 2)").due("met(1)", 1);
        story("ILL ahead of the way", "cabin(0, 2)", "person(0, 4, 7, 2)", "person(0, 0, 5, 2)", "person(0, 0, 4, 2)",
            "book(0)", "book(1)", "book(2)", "ill(0, 0)").due("met(1)", 1).due("met(2)", 0);
    }

    private static void sameBerthOnOtherLegs() {
        story("one BERTH, one behind the other", "cabin(0, 1)", "person(0, 0, 3, 2)", "person(0, 3, 7, 2)", "book(0)",
            "book(1)", "ill(0, 0)", "ill(1, 0)").due("berth(0)", 0).due("berth(1)", 0).due("met(0)", 0)
            .due("met(1)", 0);
    }

    private static void otherCabins() {
        story("CABINS next to one another", "cabin(0, 4)", "cabin(0, 4)", "person(0, 0, 7, 2)", "person(0, 0, 7, 3)",
            "book(0)", "book(1)", "ill(0, 0)").due("berth(1)", 4).due("met(1)", 0);
        Script four = new Script().then("cabin(0, 4)").times(4, "person(0, 0, 7, 2)").each(0, 3, "book(?)");
        new Story(CHECK, "all four of a CABIN", four).after("ill(3, 6)").due("met(0)", 1).due("met(1)", 1)
            .due("met(2)", 1).due("met(3)", 0);
    }

    private static void withoutBerths() {
        two("without a BERTH").after("ill(0, 0)", "cancel(0)").due("met(1)", 0).after("book(0)").due("met(1)", 1)
            .after("cancel(1)").due("met(1)", 0).after("cancel(0)").due("met(1)", 0);
        story("both never had one", "person(0, 0, 7, 2)", "person(0, 0, 7, 2)", "ill(0, 0)").due("met(1)", 0);
    }

    private static void atOneSitting() {
        apart("at one SITTING", 3).after("seats(0, 2, 1, 0)", "dine(3, 0)", "ill(0, 3)").due("sitting(3, 1)", 0)
            .due("sitting(3, 2)", 1).due("met(1)", 1).due("met(2)", 0).due("met(0)", 0).after("ill(2, 3)")
            .due("met(0)", 0).due("met(1)", 1).after("ill(0, NONE)").due("met(1)", 0);
        apart("at the last SITTING", 2).after("seats(0, 0, 0, 2)", "dine(6, 0)", "ill(1, 6)").due("met(0)", 1);
    }

    private static void notAtNone() {
        apart("none is no SITTING", 2).after("dine(0, 0)", "ill(0, 0)").due("sitting(0, 0)", -1)
            .due("sitting(0, 1)", -1).due("met(1)", 0);
    }

    private static void dinedAheadOfTheIllness() {
        apart("on the LEG ahead", 2).after("seats(0, 2, 0, 0)", "dine(2, 0)", "ill(0, 3)").due("met(1)", 0)
            .after("ill(0, 2)").due("met(1)", 1).after("ill(0, 3)", "dine(3, 0)").due("met(1)", 1);
    }

    private static void asMadeLatest() {
        apart("as made latest", 2).after("seats(0, 2, 0, 0)", "dine(3, 0)", "ill(0, 0)").due("met(1)", 1)
            .after("seats(0, 1, 1, 0)").due("met(1)", 1).after("dine(4, 0)").due("met(1)", 1).after("dine(3, 1)")
            .due("met(1)", 1).refused("dine(3, 3)", -1).due("met(1)", 1).after("dine(3, 0)").due("met(1)", 0);
    }

    private static void sittingsOfOtherClasses() {
        story("SITTING 0 of two classes", "cabin(0, 1)", "cabin(1, 1)", "person(0, 0, 7, 2)", "person(1, 0, 7, 2)",
            "book(0)", "book(1)", "seats(0, 1, 0, 0)", "seats(1, 1, 0, 0)", "dine(0, 0)", "dine(0, 1)", "ill(0, 0)")
            .due("sitting(0, 0)", 0).due("sitting(0, 1)", 0).due("met(1)", 0);
    }

    private static void notMadeForThatLeg() {
        apart("no DINING at all", 2).after("seats(0, 2, 0, 0)", "ill(0, 0)").due("met(1)", 0).after("dine(6, 0)")
            .due("met(1)", 1);
    }

    private static void notHandedOn() {
        story("who is MET is not ILL by that", "cabin(0, 2)", "person(0, 0, 3, 2)", "person(0, 0, 7, 2)",
            "person(0, 3, 7, 2)", "book(0)", "book(1)", "book(2)", "ill(0, 0)").due("met(1)", 1).due("met(2)", 0);
    }

    private static void lastPerson() {
        Script full = new Script().then("cabin(0, 2)").times(100, "person(0, 6, 7, NONE)").then("book(98)", "book(99)");
        new Story(CHECK, "person 99", full).taken("ill(99, 6)", 0).due("met(98)", 1).due("met(99)", 0).due("met(0)", 0)
            .due("met(100)", -1).refused("ill(100, 6)", -2).taken("ill(98, 0)", 0).due("met(99)", 1);
    }

    private static void nobody() {
        two("nobody").due("met(2)", -1).due("met(-1)", -1).due("met(99)", -1).due("met(100)", -1).due("met(LEAST)", -1)
            .due("met(MOST)", -1).refused("ill(2, 0)", -2).refused("ill(-1, 0)", -2).refused("ill(2, 7)", -1);
    }
}
