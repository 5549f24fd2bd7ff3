/** The edges that Term II and promises 9 to 12 name, each sentence by itself. */
public final class DiningEdgesTest {
    private static final Check CHECK = new Check();

    public static void main(String[] args) {
        noSeatsAtFirst();
        mostSeats();
        mostSeatsAtAllSittings();
        alikeOnAllLegs();
        ofEachClass();
        justEnoughSeats();
        oneGroupOverThreeSittings();
        groupsOfThoseWithBerths();
        aloneByItself();
        partiesOfOtherClasses();
        tenGroups();
        elevenGroupsOnOneLeg();
        elevenPeopleOfTenGroups();
        lowestPersonOpensTheGroup();
        wishAtFirst();
        wishOfTheLowestAlone();
        mostPeopleAheadOfWishes();
        mostPeopleAheadOfRow();
        wishesAheadOfRow();
        wishIsNoPeople();
        firstAsRows();
        sittingAheadOfNone();
        noneIsNoWish();
        keptTheLatest();
        neverMade();
        bookedBehindIt();
        CHECK.finish();
    }

    private static Story story(String title, String... ahead) {
        return new Story(CHECK, title).after(ahead);
    }

    /** A ship with cabins enough, and people with berths from port 0 to port 7 of these parties. */
    private static Story ship(String title, int... parties) {
        Script script = new Script().times(20, "cabin(0, 4)");
        for (int party : parties) {
            script.then("person(0, 0, 7, " + party + ")");
        }
        return new Story(CHECK, title, script.each(0, parties.length - 1, "book(?)"));
    }

    private static void row(Story x, int leg, int... sittings) {
        for (int p = 0; p < sittings.length; p++) {
            x.due("sitting(" + leg + ", " + p + ")", sittings[p]);
        }
    }

    private static void noSeatsAtFirst() {
        Story x = ship("0 at first", -1, 4).taken("dine(0, 0)", 0);
        row(x, 0, -1, -1);
    }

    private static void mostSeats() {
        Story x = ship("100 seats", 1, 1, 1, 1).taken("seats(0, 0, 0, 100)", 0).taken("dine(0, 0)", 4);
        row(x, 0, 2, 2, 2, 2);
        x.refused("seats(0, 101, 100, 100)", -1).refused("seats(0, 100, 101, 100)", -1)
            .refused("seats(0, 100, 100, 101)", -1).refused("seats(0, 100, 100, -1)", -1).taken("dine(0, 0)", 4);
        row(x, 0, 2, 2, 2, 2);
    }

    private static void mostSeatsAtAllSittings() {
        Story x = ship("100 seats at each", -1, 4, 4, -1, -1).after("seats(0, 100, 100, 100)", "wish(0, 2)", "wish(1, 1)",
            "wish(3, 0)").taken("dine(0, 0)", 5);
        row(x, 0, 2, 1, 1, 0, 0);
    }

    private static void alikeOnAllLegs() {
        Story x = ship("on all legs", -1).taken("seats(0, 0, 1, 0)", 0);
        for (int leg = 0; leg < 7; leg++) {
            x.taken("dine(" + leg + ", 0)", 1).due("sitting(" + leg + ", 0)", 1);
        }
        x.refused("dine(7, 0)", -1).refused("dine(-1, 0)", -1);
    }

    private static void ofEachClass() {
        Story x = story("of each class", "cabin(0, 1)", "cabin(1, 1)", "cabin(2, 1)", "person(0, 0, 7, 1)",
            "person(1, 0, 7, 1)", "person(2, 0, 7, 1)", "book(0)", "book(1)", "book(2)", "seats(2, 0, 0, 1)")
            .taken("dine(0, 0)", 0).taken("dine(0, 1)", 0).taken("dine(0, 2)", 1);
        row(x, 0, -1, -1, 2);
        x.taken("seats(0, 1, 0, 0)", 0).taken("dine(0, 0)", 1).taken("dine(0, 1)", 0).taken("dine(0, 2)", 1);
        row(x, 0, 0, -1, 2);
    }

    private static void justEnoughSeats() {
        Story x = ship("three of a party", 6, 6, 6).taken("seats(0, 2, 2, 2)", 0).taken("dine(0, 0)", 0);
        row(x, 0, -1, -1, -1);
        x.taken("seats(0, 2, 3, 2)", 0).taken("dine(0, 0)", 3);
        row(x, 0, 1, 1, 1);
    }

    private static void oneGroupOverThreeSittings() {
        Story x = ship("each group whole", 6, 6, 7, 7).taken("seats(0, 1, 1, 3)", 0).taken("dine(0, 0)", 2);
        row(x, 0, 2, 2, -1, -1);
    }

    private static void groupsOfThoseWithBerths() {
        story("of a party those with berths on that leg", "cabin(0, 4)", "person(0, 0, 3, 2)", "person(0, 3, 7, 2)",
            "person(0, 2, 4, 2)", "person(0, 0, 7, 2)", "book(0)", "book(1)", "book(2)", "seats(0, 2, 0, 0)")
            .taken("dine(1, 0)", 1).taken("dine(2, 0)", 2).taken("dine(3, 0)", 2).taken("dine(4, 0)", 1)
            .due("sitting(1, 0)", 0).due("sitting(1, 1)", -1).due("sitting(1, 2)", -1).due("sitting(1, 3)", -1)
            .due("sitting(2, 0)", 0).due("sitting(2, 1)", -1).due("sitting(2, 2)", 0).due("sitting(2, 3)", -1)
            .due("sitting(3, 0)", -1).due("sitting(3, 1)", 0).due("sitting(3, 2)", 0).due("sitting(4, 2)", -1);
    }

    private static void aloneByItself() {
        Story x = ship("each alone by itself", -1, -1, -1).taken("seats(0, 1, 1, 1)", 0).taken("dine(0, 0)", 3);
        row(x, 0, 0, 1, 2);
        Story party = ship("of a party together", 0, 0, 0).taken("seats(0, 1, 1, 1)", 0).taken("dine(0, 0)", 0);
        row(party, 0, -1, -1, -1);
    }

    private static void partiesOfOtherClasses() {
        story("of a party those of the class", "cabin(0, 4)", "cabin(1, 4)", "person(1, 0, 7, 2)", "person(0, 0, 7, 2)",
            "book(0)", "book(1)", "wish(0, 1)", "seats(0, 1, 1, 0)", "seats(1, 1, 0, 0)").taken("dine(0, 0)", 1)
            .due("sitting(0, 1)", 0).due("sitting(0, 0)", -1).taken("dine(0, 1)", 1).due("sitting(0, 0)", 0);
    }

    private static void tenGroups() {
        Story x = ship("ten groups", -1, 0, -1, 1, -1, 2, -1, 3, -1, 29).taken("seats(0, 3, 3, 4)", 0)
            .taken("dine(6, 0)", 10);
        row(x, 6, 0, 0, 0, 1, 1, 1, 2, 2, 2, 2);
        x.after("person(0, 0, 7, 29)").taken("book(10)", 25).taken("dine(6, 0)", 10);
        x.after("person(0, 0, 7, NONE)", "book(11)").refused("dine(6, 0)", -5).taken("cancel(4)", 0)
            .taken("dine(6, 0)", 10);
    }

    private static void elevenGroupsOnOneLeg() {
        Script script = new Script().times(11, "cabin(0, 1)").times(10, "person(0, 0, 7, NONE)")
            .then("person(0, 3, 4, NONE)").each(0, 10, "book(?)").then("seats(0, 100, 0, 0)");
        new Story(CHECK, "eleven groups on leg 3 alone", script).taken("dine(2, 0)", 10).refused("dine(3, 0)", -5)
            .taken("dine(4, 0)", 10).taken("dine(3, 1)", 0).due("sitting(3, 0)", -1).due("sitting(3, 10)", -1)
            .due("sitting(2, 9)", 0);
    }

    private static void elevenPeopleOfTenGroups() {
        ship("people do not count, groups do", 5, 5, -1, -1, -1, -1, -1, -1, -1, -1, -1).taken("seats(0, 9, 2, 0)", 0)
            .taken("dine(0, 0)", 11);
    }

    private static void lowestPersonOpensTheGroup() {
        Story x = ship("by the lowest person in it", 9, 3, 3, 9).taken("seats(0, 2, 0, 0)", 0).taken("dine(0, 0)", 2);
        row(x, 0, 0, -1, -1, 0);
        x.taken("cancel(0)", 0).after("seats(0, 1, 0, 0)").taken("dine(0, 0)", 1);
        row(x, 0, -1, -1, -1, 0);
        x.after("seats(0, 2, 0, 0)").taken("dine(0, 0)", 2);
        row(x, 0, -1, 0, 0, -1);
    }

    private static void wishAtFirst() {
        ship("NONE at first", -1).taken("wish(0, NONE)", -1).taken("wish(0, 2)", -1).taken("wish(0, 0)", 2)
            .taken("wish(0, 0)", 0).taken("wish(0, NONE)", 0).taken("wish(0, 1)", -1).refused("wish(0, 3)", -1)
            .refused("wish(0, -2)", -1).taken("wish(0, 1)", 1);
    }

    private static void wishOfTheLowestAlone() {
        Story x = ship("told by its lowest", 4, 4).after("seats(0, 2, 2, 2)", "wish(1, 2)").taken("dine(0, 0)", 2);
        row(x, 0, 0, 0);
        x.after("wish(0, 1)").taken("dine(0, 0)", 2);
        row(x, 0, 1, 1);
        x.taken("cancel(0)", 0).taken("dine(0, 0)", 1);
        row(x, 0, -1, 2);
    }

    private static void mostPeopleAheadOfWishes() {
        Story x = ship("one person more outweighs all wishes", 1, 1, 1, -1, -1).after("seats(0, 3, 0, 0)",
            "wish(3, 0)", "wish(4, 0)").taken("dine(0, 0)", 3);
        row(x, 0, 0, 0, 0, -1, -1);
        x.after("seats(0, 2, 0, 0)").taken("dine(0, 0)", 2);
        row(x, 0, -1, -1, -1, 0, 0);
    }

    private static void mostPeopleAheadOfRow() {
        Story x = ship("the first stays out for two", -1, 2, 2).after("seats(0, 0, 2, 0)").taken("dine(0, 0)", 2);
        row(x, 0, -1, 1, 1);
    }

    private static void wishesAheadOfRow() {
        Story x = ship("the wish of the last", -1, -1).after("seats(0, 1, 1, 0)", "wish(1, 0)").taken("dine(0, 0)", 2);
        row(x, 0, 1, 0);
        x.after("wish(0, 0)").taken("dine(0, 0)", 2);
        row(x, 0, 0, 1);
        x.after("wish(1, NONE)").taken("dine(0, 0)", 2);
        row(x, 0, 0, 1);
    }

    private static void wishIsNoPeople() {
        Story x = ship("groups as they wish, not people", 1, 1, 1, -1, -1, -1).after("seats(0, 3, 3, 0)", "wish(0, 0)",
            "wish(3, 0)", "wish(4, 0)").taken("dine(0, 0)", 6);
        row(x, 0, 1, 1, 1, 0, 0, 0);
    }

    private static void firstAsRows() {
        Story x = ship("SITTING 0 ahead of 1, of 2", -1).after("seats(0, 1, 1, 1)").taken("dine(0, 0)", 1);
        row(x, 0, 0);
        x.after("seats(0, 0, 1, 1)").taken("dine(0, 0)", 1);
        row(x, 0, 1);
        x.after("seats(0, 0, 0, 1)").taken("dine(0, 0)", 1);
        row(x, 0, 2);
        x.after("seats(0, 0, 0, 0)").taken("dine(0, 0)", 0);
        row(x, 0, -1);
    }

    private static void sittingAheadOfNone() {
        Story x = ship("2 ahead of none, the first GROUP ahead", -1, -1, -1, -1).after("seats(0, 1, 0, 1)")
            .taken("dine(0, 0)", 2);
        row(x, 0, 0, 2, -1, -1);
        Story late = ship("the wish of the third", -1, -1, -1).after("seats(0, 1, 0, 1)", "wish(2, 2)")
            .taken("dine(0, 0)", 2);
        row(late, 0, 0, -1, 2);
    }

    private static void noneIsNoWish() {
        Story x = ship("who has no WISH and does not dine is not as it wishes", -1, -1, 3, 3).after("seats(0, 0, 1, 0)",
            "wish(1, 1)").taken("dine(0, 0)", 1);
        row(x, 0, -1, 1, -1, -1);
        x.after("wish(1, NONE)", "wish(0, 2)").taken("dine(0, 0)", 1);
        row(x, 0, 1, -1, -1, -1);
    }

    private static void keptTheLatest() {
        Story x = ship("kept as the latest", -1, -1).after("seats(0, 2, 0, 0)").taken("dine(3, 0)", 2);
        x.after("seats(0, 0, 1, 0)", "wish(1, 1)");
        row(x, 3, 0, 0);
        x.taken("dine(4, 0)", 1);
        row(x, 3, 0, 0);
        row(x, 4, -1, 1);
        x.refused("dine(3, 3)", -1);
        row(x, 3, 0, 0);
        x.taken("dine(3, 0)", 1);
        row(x, 3, -1, 1);
    }

    private static void neverMade() {
        Story x = ship("not made for that leg", -1).after("seats(0, 1, 1, 1)");
        for (int leg = 0; leg < 7; leg++) {
            x.due("sitting(" + leg + ", 0)", -1);
        }
        x.taken("dine(3, 1)", 0).due("sitting(3, 0)", -1).taken("dine(3, 0)", 1).due("sitting(3, 0)", 0)
            .due("sitting(2, 0)", -1).due("sitting(4, 0)", -1).due("sitting(3, 1)", -1).due("sitting(-1, 0)", -1)
            .due("sitting(7, 0)", -1);
    }

    private static void bookedBehindIt() {
        Story x = ship("who came behind the DINING", -1).after("seats(0, 2, 0, 0)", "dine(0, 0)",
            "person(0, 0, 7, NONE)", "book(1)");
        row(x, 0, 0, -1);
        x.taken("dine(0, 0)", 2);
        row(x, 0, 0, 0);
    }
}
