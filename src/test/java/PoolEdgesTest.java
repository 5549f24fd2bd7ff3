/** The edges that the second half of Term IV and promises 22 to 25 name, each sentence by itself. */
public final class PoolEdgesTest {
    private static final Check CHECK = new Check();

    public static void main(String[] args) {
        firstAndLastOfAll();
        anyPerson();
        notBehindClose();
        stakeAsTold();
        nearestOnBothSides();
        nearestFarOff();
        belowIsNotAbove();
        exactAlone();
        onlyValidWin();
        seamenCut();
        seamenGetAllOrNone();
        partedCut();
        leftOverIsCarried();
        allWithoutWinners();
        noBetsAtAll();
        noValidBets();
        carriedIsNotTheSeamens();
        behindPoolFiveItStays();
        mostMoney();
        notKnownAnyMore();
        oneAheadIsNotKnown();
        oneBehindNeedNot();
        dayToldAgain();
        rulesOfNow();
        whatOfAPool();
        winsOfOthers();
        CHECK.finish();
    }

    private static Story story(String title, String... ahead) {
        return new Story(CHECK, title).after("person(0, 0, 1, NONE)").after(ahead);
    }

    /** VALID stakes, seamen's part, the rest, WINNERS, CARRIED of a POOL. */
    private static Story pool(Story x, int pool, int... wanted) {
        for (int what = 0; what < wanted.length; what++) {
            x.due("pool(" + pool + ", " + what + ")", wanted[what]);
        }
        return x;
    }

    private static Story wins(Story x, int... wanted) {
        for (int bet = 0; bet < wanted.length; bet++) {
            x.due("wins(" + bet + ")", wanted[bet]);
        }
        return x;
    }

    private static void firstAndLastOfAll() {
        Story x = story("the least and the most").taken("bet(0, 0, 0, 0, 0)", 0).taken("bet(5, 0, 1000, 10000, 35)", 1)
            .refused("bet(6, 0, 0, 0, 0)", -1).refused("bet(-1, 0, 0, 0, 0)", -1)
            .refused("bet(0, 0, 1001, 0, 0)", -1).refused("bet(0, 0, -1, 0, 0)", -1)
            .refused("bet(0, 0, 0, 10001, 0)", -1).refused("bet(0, 0, 0, -1, 0)", -1)
            .refused("bet(0, 0, 0, 0, 36)", -1).refused("bet(0, 0, 0, 0, -1)", -1).due("count(4)", 2);
        for (int p = 0; p < 6; p++) {
            x.taken("day(" + p + ", " + (p == 5 ? 1000 : 0) + ")", 0);
        }
        pool(x, 0, 0, 0, 0, 1, 0);
        pool(x, 5, 10000, 0, 10000, 1, 0);
        wins(x, 0, 10000);
    }

    private static void anyPerson() {
        story("the last person; the same one twice", "person(0, 0, 1, NONE)").taken("bet(0, 1, 5, 5, 0)", 0)
            .taken("bet(0, 1, 5, 5, 0)", 1).refused("bet(0, 2, 5, 5, 0)", -2).refused("bet(0, -1, 5, 5, 0)", -2)
            .taken("day(0, 5)", 0).due("wins(0)", 5).due("wins(1)", 5);
    }

    private static void notBehindClose() {
        Story x = story("in the close WATCH, not behind it", "bet(0, 0, 5, 1, 0)", "bet(0, 0, 5, 10, 19)",
            "bet(0, 0, 5, 100, 20)", "bet(0, 0, 5, 1000, 35)", "day(0, 5)").rules("close 19", 1);
        wins(pool(x, 0, 11, 0, 11, 2, 1), 5, 5, 0, 0).rules("close 0", 1);
        wins(pool(x, 0, 1, 0, 1, 1, 0), 1, 0, 0, 0).rules("close 35", 1);
        wins(pool(x, 0, 1111, 0, 1111, 4, 3), 277, 277, 277, 277).rules("close 34", 1);
        pool(x, 0, 111, 0, 111, 3, 0);
    }

    private static void stakeAsTold() {
        Story x = story("from the first to the second", "bet(0, 0, 5, 9, 0)", "bet(0, 0, 5, 10, 0)",
            "bet(0, 0, 5, 20, 0)", "bet(0, 0, 5, 21, 0)", "day(0, 5)").rules("stake 10 to 20", 1);
        wins(pool(x, 0, 30, 0, 30, 2, 0), 0, 15, 15, 0).rules("stake 11 to 19", 1);
        wins(pool(x, 0, 0, 0, 0, 0, 0), 0, 0, 0, 0).rules("stake 21 to 21", 1);
        wins(pool(x, 0, 21, 0, 21, 1, 0), 0, 0, 0, 21);
    }

    private static void nearestOnBothSides() {
        Story x = story("the least difference", "bet(0, 0, 90, 10, 0)", "bet(0, 0, 110, 10, 0)", "bet(0, 0, 89, 10, 0)",
            "bet(0, 0, 111, 10, 0)", "day(0, 100)");
        wins(pool(x, 0, 40, 0, 40, 2, 0), 20, 20, 0, 0).after("day(0, 99)");
        wins(pool(x, 0, 40, 0, 40, 1, 0), 40, 0, 0, 0).after("day(0, 101)");
        wins(pool(x, 0, 40, 0, 40, 1, 0), 0, 40, 0, 0);
    }

    private static void nearestFarOff() {
        Story x = story("as far as can be", "bet(0, 0, 1000, 10, 0)", "day(0, 0)");
        wins(pool(x, 0, 10, 0, 10, 1, 0), 10).after("bet(0, 0, 0, 10, 0)", "day(0, 1000)");
        wins(pool(x, 0, 20, 0, 20, 1, 0), 20, 0).after("day(0, 500)");
        wins(pool(x, 0, 20, 0, 20, 2, 0), 10, 10).after("day(0, 499)");
        wins(x, 0, 20).after("day(0, 501)");
        wins(x, 20, 0);
    }

    private static void belowIsNotAbove() {
        Story x = story("not above it", "bet(0, 0, 101, 10, 0)", "bet(0, 0, 50, 10, 0)", "bet(0, 0, 50, 10, 0)",
            "bet(0, 0, 49, 10, 0)", "day(0, 100)").rules("pool below", 1);
        wins(pool(x, 0, 40, 0, 40, 2, 0), 0, 20, 20, 0).after("day(0, 101)");
        wins(pool(x, 0, 40, 0, 40, 1, 0), 40, 0, 0, 0).after("day(0, 48)");
        wins(pool(x, 0, 40, 0, 40, 0, 40), 0, 0, 0, 0).after("day(0, 49)");
        wins(pool(x, 0, 40, 0, 40, 1, 0), 0, 0, 0, 40).after("day(0, 50)");
        wins(x, 0, 20, 20, 0);
    }

    private static void exactAlone() {
        Story x = story("those that are it", "bet(0, 0, 99, 10, 0)", "bet(0, 0, 100, 10, 0)", "bet(0, 0, 101, 10, 0)",
            "day(0, 100)").rules("pool exact", 1);
        wins(pool(x, 0, 30, 0, 30, 1, 0), 0, 30, 0).after("day(0, 102)");
        wins(pool(x, 0, 30, 0, 30, 0, 30), 0, 0, 0).after("day(0, 98)");
        wins(pool(x, 0, 30, 0, 30, 0, 30), 0, 0, 0).after("bet(0, 0, 0, 5, 0)", "day(0, 0)");
        wins(pool(x, 0, 35, 0, 35, 1, 0), 0, 0, 0, 35);
    }

    private static void onlyValidWin() {
        Story x = story("a BET that is not VALID stands in nobody's way", "bet(0, 0, 100, 10, 35)",
            "bet(0, 0, 90, 10, 0)", "bet(0, 0, 100, 1, 0)", "day(0, 100)").rules("close 34;stake 2 to 10", 2);
        wins(pool(x, 0, 10, 0, 10, 1, 0), 0, 10, 0);
    }

    private static void seamenCut() {
        Story x = story("so many hundredths, cut", "bet(0, 0, 5, 99, 0)", "day(0, 5)").rules("seamen 1", 1);
        pool(x, 0, 99, 0, 99, 1, 0).after("bet(0, 0, 5, 1, 0)");
        pool(x, 0, 100, 1, 99, 2, 1).after("bet(0, 0, 5, 99, 0)");
        pool(x, 0, 199, 1, 198, 3, 0).rules("seamen 99", 1);
        pool(x, 0, 199, 197, 2, 3, 2);
    }

    private static void seamenGetAllOrNone() {
        Story x = story("0 and 100 hundredths", "bet(0, 0, 5, 77, 0)", "day(0, 5)").rules("seamen 0", 1);
        wins(pool(x, 0, 77, 0, 77, 1, 0), 77).rules("seamen 100", 1);
        wins(pool(x, 0, 77, 77, 0, 1, 0), 0);
    }

    private static void partedCut() {
        Story x = story("parted alike, cut", "bet(0, 0, 5, 1, 0)", "bet(0, 0, 5, 1, 0)", "bet(0, 0, 5, 0, 0)",
            "day(0, 5)");
        wins(pool(x, 0, 2, 0, 2, 3, 2), 0, 0, 0).after("bet(0, 0, 6, 1, 0)");
        wins(pool(x, 0, 3, 0, 3, 3, 0), 1, 1, 1, 0).after("bet(0, 0, 6, 2, 0)");
        wins(pool(x, 0, 5, 0, 5, 3, 2), 1, 1, 1, 0, 0);
    }

    private static void leftOverIsCarried() {
        Story x = story("left over", "bet(0, 0, 5, 5, 0)", "bet(0, 0, 5, 6, 0)", "bet(1, 0, 7, 9, 0)", "day(0, 5)",
            "day(1, 7)");
        pool(x, 0, 11, 0, 11, 2, 1);
        wins(pool(x, 1, 9, 0, 10, 1, 0), 5, 5, 10);
    }

    private static void allWithoutWinners() {
        Story x = story("all of it", "bet(0, 0, 5, 55, 0)", "bet(1, 0, 7, 9, 0)", "day(0, 4)", "day(1, 7)")
            .rules("pool exact;seamen 10", 2);
        pool(x, 0, 55, 5, 50, 0, 50);
        wins(pool(x, 1, 9, 0, 59, 1, 0), 0, 59);
    }

    private static void noBetsAtAll() {
        Story x = story("no BETS");
        for (int p = 0; p < 6; p++) {
            x.taken("day(" + p + ", 0)", 0);
            pool(x, p, 0, 0, 0, 0, 0);
        }
        x.due("wins(0)", 0);
    }

    private static void noValidBets() {
        Story x = story("none is VALID", "bet(0, 0, 5, 55, 1)", "bet(1, 0, 5, 5, 0)", "bet(2, 0, 5, 7, 1)",
            "bet(3, 0, 5, 1, 0)", "day(0, 5)", "day(1, 6)", "day(2, 5)", "day(3, 5)").rules("close 0;pool exact", 2);
        pool(x, 0, 0, 0, 0, 0, 0);
        pool(x, 1, 5, 0, 5, 0, 5);
        pool(x, 2, 0, 0, 5, 0, 5);
        pool(x, 3, 1, 0, 6, 1, 0);
        wins(x, 0, 0, 0, 6);
    }

    private static void carriedIsNotTheSeamens() {
        Story x = story("of the stakes alone", "bet(0, 0, 5, 1000, 0)", "bet(1, 0, 5, 10, 0)", "day(0, 4)", "day(1, 5)")
            .rules("pool exact;seamen 50", 2);
        pool(x, 0, 1000, 500, 500, 0, 500);
        pool(x, 1, 10, 5, 505, 1, 0);
        x.due("wins(1)", 505);
    }

    private static void behindPoolFiveItStays() {
        Story x = story("behind POOL 5", "bet(5, 0, 5, 10, 0)", "bet(0, 0, 5, 7, 0)").rules("pool exact", 1);
        for (int p = 0; p < 6; p++) {
            x.after("day(" + p + ", 6)");
        }
        for (int p = 0; p < 5; p++) {
            pool(x, p, p == 0 ? 7 : 0, 0, 7, 0, 7);
        }
        pool(x, 5, 10, 0, 17, 0, 17);
        pool(x, 0, 7, 0, 7, 0, 7);
        pool(x, 5, 10, 0, 17, 0, 17).due("pool(6, 2)", -1);
    }

    private static void mostMoney() {
        Script script = new Script().then("person(0, 0, 1, NONE)").times(100, "bet(0, 0, 1000, 10000, 0)")
            .each(0, 5, "day(?, 0)");
        Story x = new Story(CHECK, "100 stakes of 10,000", script).rules("seamen 100", 1);
        pool(x, 0, 1000000, 1000000, 0, 100, 0).rules("seamen 99;pool exact", 2);
        pool(x, 0, 1000000, 990000, 10000, 0, 10000);
        pool(x, 5, 0, 0, 10000, 0, 10000).rules("pool exact", 1);
        pool(x, 5, 0, 0, 1000000, 0, 1000000).rules("pool nearest", 1);
        pool(x, 0, 1000000, 0, 1000000, 100, 0).due("wins(99)", 10000).due("wins(100)", 0);
    }

    private static void notKnownAnyMore() {
        Story x = story("NONE: not known any more", "bet(0, 0, 5, 7, 0)").due("pool(0, 0)", -1).due("wins(0)", 0)
            .taken("day(0, NONE)", 0).due("pool(0, 0)", -1).taken("day(0, 0)", 0).due("pool(0, 0)", 7)
            .due("wins(0)", 7).taken("day(0, NONE)", 0).due("wins(0)", 0);
        for (int what = 0; what < 5; what++) {
            x.due("pool(0, " + what + ")", -1);
        }
        x.refused("day(0, -2)", -1).refused("day(0, 1001)", -1).refused("day(6, 0)", -1).refused("day(-1, NONE)", -1)
            .due("pool(0, 0)", -1);
    }

    private static void oneAheadIsNotKnown() {
        for (int unknown = 0; unknown < 6; unknown++) {
            Story x = story("POOL " + unknown + " is not known");
            for (int p = 0; p < 6; p++) {
                x.after("bet(" + p + ", 0, 5, 7, 0)", "day(" + p + ", 5)");
            }
            x.after("day(" + unknown + ", NONE)");
            for (int p = 0; p < 6; p++) {
                x.due("pool(" + p + ", 0)", p < unknown ? 7 : -1).due("pool(" + p + ", 4)", p < unknown ? 0 : -1)
                    .due("wins(" + p + ")", p < unknown ? 7 : 0);
            }
        }
    }

    private static void oneBehindNeedNot() {
        story("those behind it need not be known", "bet(0, 0, 5, 7, 0)", "day(0, 5)").due("pool(0, 0)", 7)
            .due("wins(0)", 7).due("pool(1, 0)", -1).due("pool(5, 0)", -1);
    }

    private static void dayToldAgain() {
        Story x = story("the latest counts", "bet(0, 0, 5, 7, 0)", "bet(0, 0, 9, 8, 0)", "day(0, 5)");
        wins(x, 15, 0).taken("day(0, 9)", 0);
        wins(x, 0, 15).refused("day(0, 1001)", -1);
        wins(x, 0, 15).after("bet(0, 0, 9, 5, 0)");
        wins(x, 0, 10, 10);
    }

    private static void rulesOfNow() {
        Story x = story("by RULES of now", "bet(0, 0, 4, 7, 0)", "bet(0, 0, 6, 8, 30)", "day(0, 6)");
        wins(x, 0, 15).rules("close 29", 1);
        wins(x, 7, 0).rules("close 30;seamen 20", 2);
        wins(x, 0, 12).fault("close 30;seamen 20;x", 19);
        wins(x, 0, 12);
    }

    private static void whatOfAPool() {
        Story x = story("what 0 to 4", "bet(0, 0, 4, 7, 0)", "day(0, 5)");
        pool(x, 0, 7, 0, 7, 1, 0).due("pool(0, 5)", -1).due("pool(0, -1)", -1).due("pool(0, LEAST)", -1)
            .due("pool(0, MOST)", -1).due("pool(-1, 0)", -1).due("pool(6, 0)", -1).due("pool(MOST, MOST)", -1);
    }

    private static void winsOfOthers() {
        story("0 of others", "bet(0, 0, 4, 7, 0)", "bet(0, 0, 9, 7, 0)", "day(0, 4)").due("wins(0)", 14)
            .due("wins(1)", 0).due("wins(2)", 0).due("wins(-1)", 0).due("wins(99)", 0).due("wins(100)", 0)
            .due("wins(LEAST)", 0).due("wins(MOST)", 0);
    }
}
