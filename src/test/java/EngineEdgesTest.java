/** The edges that Term III and promises 13 to 17 name, each sentence by itself. */
public final class EngineEdgesTest {
    private static final Check CHECK = new Check();

    public static void main(String[] args) {
        tenForEachKnot();
        leastAndMostTons();
        mostTonsOfARun();
        stormOfOneWatch();
        stormOfAllWatches();
        stormToldAgain();
        noStormAtFirst();
        milesAreCut();
        milesInTheWorstStorm();
        justSoManyMiles();
        mostMiles();
        byTheEndOfALaterOne();
        lastWatches();
        knotsFromTo();
        oneSpeedAlone();
        noKnots();
        noMiles();
        burnsLeast();
        aheadOfTimeIfAlike();
        lessCoalThoughLater();
        firstAsRows();
        moreMilesThanAsked();
        behindTheMilesAtA();
        behindTheMilesDearest();
        behindTheMilesBurnsToo();
        thereInTheFirstAndLast();
        nothingKeptYet();
        refusedStaysTheLatest();
        keptAsItWasMade();
        shorterBehindLonger();
        CHECK.finish();
    }

    private static Story story(String title, String... ahead) {
        return new Story(CHECK, title).after(ahead);
    }

    /** KNOTS of the WATCHES of a RUN; those next to it have none. */
    private static Story row(Story x, int from, int... knots) {
        for (int i = 0; i < knots.length; i++) {
            x.due("steamed(" + (from + i) + ", 0)", knots[i]);
        }
        if (from > 0) {
            x.due("steamed(" + (from - 1) + ", 0)", -1).due("steamed(" + (from - 1) + ", 1)", -1);
        }
        int behind = from + knots.length;
        return x.due("steamed(" + behind + ", 0)", -1).due("steamed(" + behind + ", 1)", -1);
    }

    private static Story made(Story x, int from, int... miles) {
        for (int i = 0; i < miles.length; i++) {
            x.due("steamed(" + (from + i) + ", 1)", miles[i]);
        }
        return x;
    }

    private static void tenForEachKnot() {
        Story x = story("of those not told", "burn(12, 7)");
        for (int k = 0; k <= 24; k++) {
            x.taken("run(0, 0, 1, " + k + ", " + k + ")", k == 12 ? 14 : 20 * k);
        }
    }

    private static void leastAndMostTons() {
        story("burn 0 and 1000").taken("burn(24, 0)", 0).taken("burn(0, 1000)", 0).taken("run(96, 0, 1, 24, 24)", 0)
            .taken("run(0, 0, 1, 0, 0)", 2000).refused("burn(24, 1001)", -1).refused("burn(24, -1)", -1)
            .refused("burn(25, 0)", -1).refused("burn(-1, 0)", -1).taken("run(96, 0, 1, 24, 24)", 0)
            .taken("run(0, 0, 35, 0, 0)", 36000);
    }

    private static void mostTonsOfARun() {
        Story x = new Story(CHECK, "all KNOTS burn 1000", new Script().each(0, 24, "burn(?, 1000)"))
            .taken("run(3000, 0, 35, 0, 24)", 36000).due("steamed(-1, 0)", 31).due("steamed(0, 0)", 6)
            .due("steamed(1, 0)", 24).due("steamed(31, 0)", 24).due("steamed(32, 0)", 0);
        x.taken("run(1, 0, 35, 0, 24)", 36000).due("steamed(-1, 0)", 0).due("steamed(0, 0)", 1);
    }

    private static void stormOfOneWatch() {
        story("from a watch to the same").taken("storm(20, 20, 50)", 0).due("miles(19, 10)", 40)
            .due("miles(20, 10)", 20).due("miles(21, 10)", 40).taken("storm(0, 0, 25)", 0).due("miles(0, 10)", 30)
            .due("miles(1, 10)", 40).taken("storm(35, 35, 75)", 0).due("miles(35, 10)", 10).due("miles(34, 10)", 40)
            .refused("storm(20, 19, 50)", -1).due("miles(19, 10)", 40).due("miles(20, 10)", 20)
            .refused("storm(36, 36, 50)", -1).refused("storm(-1, -1, 50)", -1);
    }

    private static void stormOfAllWatches() {
        Story x = story("all watches").taken("storm(0, 35, 10)", 0);
        for (int w = 0; w < 36; w++) {
            x.due("miles(" + w + ", 10)", 36);
        }
        x.refused("storm(0, 36, 20)", -1).refused("storm(-1, 35, 20)", -1).due("miles(0, 10)", 36)
            .due("miles(35, 10)", 36);
    }

    private static void stormToldAgain() {
        story("the latest counts, in those watches alone", "storm(3, 9, 100)", "storm(5, 7, 0)").due("miles(4, 1)", 0)
            .due("miles(5, 1)", 4).due("miles(7, 1)", 4).due("miles(8, 1)", 0);
    }

    private static void noStormAtFirst() {
        Story x = story("0 at first");
        for (int k = 0; k <= 24; k++) {
            x.due("miles(" + k + ", " + k + ")", 4 * k);
        }
        x.due("miles(35, 24)", 96);
    }

    private static void milesAreCut() {
        story("cut", "storm(0, 0, 1)", "storm(1, 1, 99)", "storm(2, 2, 33)", "storm(3, 3, 75)", "storm(4, 4, 76)")
            .due("miles(0, 1)", 3).due("miles(0, 24)", 95).due("miles(0, 25)", -1).due("miles(1, 24)", 0)
            .due("miles(1, 1)", 0).due("miles(2, 1)", 2).due("miles(2, 3)", 8).due("miles(3, 1)", 1)
            .due("miles(4, 1)", 0).due("miles(4, 2)", 1);
    }

    private static void milesInTheWorstStorm() {
        story("STORM 100", "storm(7, 7, 100)").due("miles(7, 0)", 0).due("miles(7, 1)", 0).due("miles(7, 24)", 0)
            .refused("storm(7, 7, 101)", -1).refused("storm(7, 7, -1)", -1).due("miles(7, 24)", 0);
    }

    private static void justSoManyMiles() {
        story("as many as there can be").taken("run(192, 0, 1, 0, 24)", 480).refused("run(193, 0, 1, 0, 24)", -6)
            .taken("run(40, 0, 1, 0, 5)", 100).refused("run(41, 0, 1, 0, 5)", -6)
            .taken("storm(1, 1, 1)", 0).taken("run(191, 0, 1, 0, 24)", 480).refused("run(192, 0, 1, 0, 24)", -6);
    }

    private static void mostMiles() {
        Story x = story("3000 miles, and 3456 could be made").taken("run(3000, 0, 35, 0, 24)", 7500)
            .due("steamed(-1, 0)", 31).due("steamed(31, 1)", 3000).due("steamed(35, 1)", 3000)
            .refused("run(3001, 0, 35, 0, 24)", -1).taken("run(3000, 0, 35, 24, 24)", 8640)
            .due("steamed(35, 1)", 3456).due("steamed(-1, 0)", 31);
        x.after("storm(0, 35, 100)").refused("run(1, 0, 35, 0, 24)", -6).refused("run(3000, 0, 35, 0, 24)", -6)
            .due("steamed(35, 1)", 3456).taken("run(0, 0, 35, 0, 24)", 0).due("steamed(35, 1)", 0);
    }

    private static void byTheEndOfALaterOne() {
        Story x = story("two watches").taken("run(4, 17, 18, 0, 24)", 10);
        row(x, 17, 1, 0);
        x.refused("run(4, 17, 17, 0, 24)", -1).refused("run(4, 17, 16, 0, 24)", -1).refused("run(0, 0, 0, 0, 24)", -1)
            .refused("run(0, 35, 35, 0, 24)", -1);
        row(x, 17, 1, 0);
    }

    private static void lastWatches() {
        Story x = story("to the last watch").taken("run(100, 34, 35, 0, 24)", 250);
        row(x, 34, 1, 24).refused("run(100, 34, 36, 0, 24)", -1).refused("run(100, 35, 36, 0, 24)", -1);
        made(row(x, 34, 1, 24), 34, 4, 100).due("steamed(-1, 0)", 35);
        x.taken("run(100, 0, 1, 0, 24)", 250);
        made(row(x, 0, 1, 24), 0, 4, 100).due("steamed(34, 0)", -1).due("steamed(35, 1)", -1);
    }

    private static void knotsFromTo() {
        Story x = story("none below a, none above b", "burn(4, 0)", "burn(11, 0)").taken("run(80, 0, 1, 5, 10)", 200);
        row(x, 0, 10, 10);
        x.taken("run(80, 0, 1, 4, 11)", 0);
        row(x, 0, 11, 11);
    }

    private static void oneSpeedAlone() {
        Story x = story("a is b").taken("run(50, 3, 5, 8, 8)", 240);
        made(row(x, 3, 8, 8, 8), 3, 32, 64, 96).due("steamed(-1, 0)", 4);
        x.refused("run(50, 3, 5, 9, 8)", -1).refused("run(97, 3, 5, 8, 8)", -6);
        row(x, 3, 8, 8, 8).taken("run(96, 3, 5, 8, 8)", 240).due("steamed(-1, 0)", 5);
    }

    private static void noKnots() {
        Story x = story("0 knots").refused("run(1, 0, 35, 0, 0)", -6).due("steamed(0, 0)", -1)
            .taken("run(0, 0, 1, 0, 0)", 0);
        made(row(x, 0, 0, 0), 0, 0, 0).due("steamed(-1, 0)", -1);
    }

    private static void noMiles() {
        Story x = story("0 miles", "burn(5, 0)").taken("run(0, 2, 4, 6, 24)", 180);
        made(row(x, 2, 6, 6, 6), 2, 24, 48, 72).due("steamed(-1, 0)", -1);
        x.taken("run(0, 2, 4, 4, 24)", 120);
        row(x, 2, 4, 4, 4).due("steamed(-1, 0)", -1).taken("run(1, 2, 4, 4, 24)", 80);
        row(x, 2, 5, 4, 4).due("steamed(-1, 0)", 2);
    }

    private static void burnsLeast() {
        Story x = story("slow burns least", "burn(1, 1)", "burn(2, 2)", "burn(3, 4)", "burn(6, 100)")
            .taken("run(24, 0, 2, 0, 24)", 6);
        row(x, 0, 2, 2, 2);
        x.taken("burn(6, 6)", 0).taken("run(24, 0, 2, 0, 24)", 6);
        row(x, 0, 6, 0, 0).due("steamed(-1, 0)", 0).taken("burn(6, 7)", 0).taken("run(24, 0, 2, 0, 24)", 6);
        row(x, 0, 2, 2, 2);
    }

    private static void aheadOfTimeIfAlike() {
        Story x = story("of alike ones that which is there first").taken("run(4, 10, 12, 0, 24)", 10);
        row(x, 10, 1, 0, 0).due("steamed(-1, 0)", 10);
        x.after("storm(10, 10, 1)").taken("run(4, 10, 12, 0, 24)", 10);
        row(x, 10, 0, 1, 0).due("steamed(-1, 0)", 11);
    }

    private static void lessCoalThoughLater() {
        Story x = story("one ton less outweighs all watches", "burn(0, 0)", "burn(1, 9)", "burn(2, 19)")
            .taken("run(8, 0, 35, 0, 2)", 18).due("steamed(-1, 0)", 1);
        x.taken("storm(1, 34, 100)", 0).taken("run(8, 0, 35, 0, 2)", 18).due("steamed(-1, 0)", 35)
            .due("steamed(0, 0)", 1).due("steamed(1, 0)", 0).due("steamed(35, 0)", 1).taken("burn(2, 18)", 0)
            .taken("run(8, 0, 35, 0, 2)", 18).due("steamed(-1, 0)", 0).due("steamed(0, 0)", 2);
    }

    private static void firstAsRows() {
        Story x = story("the lowest KNOTS first").taken("run(100, 0, 1, 0, 24)", 250);
        row(x, 0, 1, 24);
        x.taken("run(100, 0, 2, 0, 13)", 250);
        row(x, 0, 12, 13, 0);
        x.taken("run(156, 0, 2, 0, 24)", 390);
        row(x, 0, 15, 24, 0).taken("storm(0, 1, 50)", 0).taken("run(24, 0, 3, 0, 24)", 60);
        row(x, 0, 0, 0, 6, 0).taken("run(97, 0, 3, 0, 24)", 250);
        row(x, 0, 0, 1, 24, 0).due("steamed(-1, 0)", 2);
    }

    private static void moreMilesThanAsked() {
        Story x = story("more miles, if they burn less", "burn(24, 1)").taken("run(1, 0, 1, 0, 24)", 1);
        made(row(x, 0, 24, 0), 0, 96, 96).due("steamed(-1, 0)", 0);
        Story lowest = story("more miles at the lowest KNOTS").taken("run(5, 0, 1, 7, 24)", 140);
        made(row(lowest, 0, 7, 7), 0, 28, 56).due("steamed(-1, 0)", 0);
    }

    private static void behindTheMilesAtA() {
        Story x = story("behind the MILES at a KNOTS, though others are cheaper", "burn(3, 30)", "burn(4, 0)")
            .taken("run(12, 0, 2, 3, 3)", 90);
        row(x, 0, 3, 3, 3);
        x.taken("run(12, 0, 2, 3, 4)", 60);
        row(x, 0, 4, 3, 3).due("steamed(-1, 0)", 0);
    }

    private static void behindTheMilesDearest() {
        Story x = story("late, where a KNOTS burns most", "burn(1, 1000)").taken("run(24, 0, 2, 1, 24)", 60);
        row(x, 0, 2, 2, 2).due("steamed(-1, 0)", 2);
        x.taken("run(4, 0, 2, 1, 1)", 3000);
        row(x, 0, 1, 1, 1).due("steamed(-1, 0)", 0);
    }

    private static void behindTheMilesBurnsToo() {
        Story x = story("what is burned behind the MILES counts", "burn(1, 50)", "burn(2, 35)", "burn(3, 40)",
            "burn(4, 50)", "burn(5, 60)").taken("run(24, 0, 2, 1, 24)", 105);
        row(x, 0, 2, 2, 2).due("steamed(-1, 0)", 2).taken("burn(1, 22)", 0).taken("run(24, 0, 2, 1, 24)", 94);
        row(x, 0, 1, 1, 4).due("steamed(-1, 0)", 2).taken("burn(6, 49)", 0).taken("run(24, 0, 2, 1, 24)", 93);
        row(x, 0, 6, 1, 1).due("steamed(-1, 0)", 0);
    }

    private static void thereInTheFirstAndLast() {
        Story x = story("the first WATCH at whose end all are made").taken("run(96, 0, 35, 0, 24)", 240)
            .due("steamed(-1, 0)", 0).taken("run(97, 0, 35, 0, 24)", 250).due("steamed(-1, 0)", 1);
        x.after("storm(0, 34, 100)").taken("run(1, 0, 35, 0, 24)", 10).due("steamed(-1, 0)", 35)
            .due("steamed(35, 1)", 4).due("steamed(34, 1)", 0).due("steamed(-1, 1)", -1).due("steamed(-2, 0)", -1);
    }

    private static void nothingKeptYet() {
        Story x = story("without").due("steamed(-1, 0)", -1).due("steamed(-1, 1)", -1).due("steamed(0, 0)", -1)
            .due("steamed(0, 1)", -1).due("steamed(35, 0)", -1).due("steamed(35, 1)", -1);
        x.refused("run(1, 0, 1, 0, 0)", -6).due("steamed(0, 0)", -1).due("steamed(-1, 0)", -1)
            .refused("run(-1, 0, 1, 0, 0)", -1).due("steamed(0, 0)", -1).taken("run(0, 0, 1, 0, 0)", 0)
            .due("steamed(0, 0)", 0).due("steamed(1, 1)", 0).due("steamed(0, 2)", -1).due("steamed(0, -1)", -1);
    }

    private static void refusedStaysTheLatest() {
        Story x = story("refused", "run(100, 5, 6, 0, 24)");
        x.refused("run(500, 7, 8, 0, 24)", -6).refused("run(3001, 7, 8, 0, 24)", -1)
            .refused("run(4, 8, 7, 0, 24)", -1);
        made(row(x, 5, 1, 24), 5, 4, 100).due("steamed(-1, 0)", 6);
    }

    private static void keptAsItWasMade() {
        Story x = story("kept", "run(100, 5, 6, 0, 24)", "burn(24, 7)", "storm(0, 35, 100)");
        made(row(x, 5, 1, 24), 5, 4, 100).due("steamed(-1, 0)", 6);
    }

    private static void shorterBehindLonger() {
        Story x = story("nothing stays of a longer one", "run(3000, 0, 35, 0, 24)").taken("run(8, 10, 11, 0, 2)", 20);
        made(row(x, 10, 2, 0), 10, 8, 8).due("steamed(0, 0)", -1).due("steamed(35, 1)", -1).due("steamed(-1, 0)", 10)
            .taken("run(0, 20, 21, 0, 2)", 0).due("steamed(-1, 0)", -1).due("steamed(10, 0)", -1);
    }
}
