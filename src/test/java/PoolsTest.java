import java.util.Random;

/** Promises 22 to 25: bet, day, wins, pool. */
public final class PoolsTest {
    private static final int LOW = Integer.MIN_VALUE;
    private static final int HIGH = Integer.MAX_VALUE;
    private static final Check CHECK = new Check();

    public static void main(String[] args) {
        bets();
        withoutRules();
        days();
        kinds();
        parted();
        carried();
        notKnown();
        dearest();
        drawn();
        CHECK.finish();
    }

    private static void due(String call, int got, int want) {
        CHECK.due(call, got, want);
    }

    private static SixDays withPerson() {
        SixDays x = new SixDays();
        x.person(0, 0, 1, -1);
        return x;
    }

    private static void rules(SixDays x, String text) {
        RulesTest.feed(x, text);
        due("rules() of '" + text + "'", x.rules() < 0 ? -6 : 0, 0);
    }

    private static void pool(SixDays x, int pool, int... wanted) {
        for (int what = 0; what < wanted.length; what++) {
            due("pool(" + pool + ", " + what + ")", x.pool(pool, what), wanted[what]);
        }
    }

    private static void bets() {
        SixDays x = withPerson();
        int[][] wrong = {{-1, 0, 0, 0, 0}, {6, 0, 0, 0, 0}, {0, 0, -1, 0, 0}, {0, 0, 1001, 0, 0}, {0, 0, 0, -1, 0},
            {0, 0, 0, 10001, 0}, {0, 0, 0, 0, -1}, {0, 0, 0, 0, 36}, {LOW, LOW, LOW, LOW, LOW},
            {HIGH, HIGH, HIGH, HIGH, HIGH}, {6, 5, 0, 0, 0}};
        for (int[] w : wrong) {
            due("a wrong bet", x.bet(w[0], w[1], w[2], w[3], w[4]), -1);
            due("status()", x.status(), -1);
        }
        due("a bet of -1", x.bet(0, -1, 0, 0, 0), -2);
        due("a bet of 1", x.bet(0, 1, 0, 0, 0), -2);
        due("a bet of 100", x.bet(0, 100, 0, 0, 0), -2);
        for (int i = 0; i < 100; i++) {
            due("bet " + i, x.bet(i % 6, 0, i * 10, 10000, i % 36), i);
        }
        due("bet 100", x.bet(0, 0, 0, 0, 0), -5);
        due("status()", x.status(), -5);
        due("a bet of nobody without room", x.bet(0, 1, 0, 0, 0), -2);
        due("count(4)", x.count(4), 100);
    }

    private static void withoutRules() {
        SixDays x = withPerson();
        x.bet(0, 0, 11, 0, 35);
        x.bet(0, 0, 12, 10000, 35);
        x.bet(0, 0, 9, 5, 0);
        x.day(0, 10);
        pool(x, 0, 10005, 0, 10005, 2, 1);
        due("a stake of 0 in the last watch", x.wins(0), 5002);
        due("below alike", x.wins(2), 5002);
        due("farther", x.wins(1), 0);
    }

    private static void days() {
        SixDays x = withPerson();
        x.bet(0, 0, 1000, 7, 0);
        int[][] wrong = {{-1, 0}, {6, 0}, {0, -2}, {0, 1001}, {LOW, 0}, {0, LOW}, {HIGH, HIGH}};
        for (int[] w : wrong) {
            due("day(" + w[0] + ", " + w[1] + ")", x.day(w[0], w[1]), -1);
            due("status()", x.status(), -1);
        }
        due("not known", x.pool(0, 0), -1);
        due("day(0, 1000)", x.day(0, 1000), 0);
        due("status()", x.status(), 0);
        due("known", x.wins(0), 7);
        due("day(0, -1)", x.day(0, -1), 0);
        due("status() of not known any more", x.status(), 0);
        due("not known any more", x.pool(0, 0), -1);
        due("and brings nothing", x.wins(0), 0);
        due("day(0, 0)", x.day(0, 0), 0);
        due("nearest wins from far", x.wins(0), 7);
    }

    private static void kinds() {
        SixDays x = withPerson();
        x.bet(0, 0, 95, 10, 0);
        x.bet(0, 0, 104, 10, 0);
        x.bet(0, 0, 96, 10, 0);
        x.bet(0, 0, 100, 10, 9);
        x.bet(1, 0, 99, 10, 0);
        x.bet(0, 0, 96, 10, 0);
        x.day(0, 100);
        rules(x, "close 8");
        pool(x, 0, 40, 0, 40, 3, 1);
        due("above wins alike", x.wins(1), 13);
        due("below wins alike", x.wins(2), 13);
        due("farther", x.wins(0), 0);
        due("not valid", x.wins(3), 0);
        rules(x, "close 8;pool below");
        pool(x, 0, 40, 0, 40, 2, 0);
        due("above is out", x.wins(1), 0);
        due("below", x.wins(5), 20);
        rules(x, "close 8;pool exact");
        pool(x, 0, 40, 0, 40, 0, 40);
        rules(x, "pool exact");
        pool(x, 0, 50, 0, 50, 1, 0);
        due("exact", x.wins(3), 50);
        rules(x, "pool below");
        due("that it is, is not above it", x.wins(3), 50);
        x.day(0, 94);
        pool(x, 0, 50, 0, 50, 0, 50);
        due("of no winners", x.wins(0), 0);
    }

    private static void parted() {
        SixDays x = withPerson();
        x.bet(0, 0, 5, 33, 0);
        x.bet(0, 0, 5, 66, 0);
        x.bet(0, 0, 5, 0, 0);
        x.day(0, 5);
        rules(x, "seamen 9");
        pool(x, 0, 99, 8, 91, 3, 1);
        due("a stake of 0 wins, too", x.wins(2), 30);
        rules(x, "seamen 100");
        pool(x, 0, 99, 99, 0, 3, 0);
        due("nothing is left", x.wins(0), 0);
        rules(x, "stake 1 to 33");
        pool(x, 0, 33, 0, 33, 1, 0);
        due("pool(0, 5)", x.pool(0, 5), -1);
        due("pool(0, -1)", x.pool(0, -1), -1);
        due("pool(-1, 0)", x.pool(-1, 0), -1);
        due("pool(6, 0)", x.pool(6, 0), -1);
        due("pool far off", x.pool(HIGH, LOW), -1);
        due("pool farther off", x.pool(LOW, HIGH), -1);
        int[] others = {-1, 3, 100, LOW, HIGH};
        for (int b : others) {
            due("wins(" + b + ")", x.wins(b), 0);
        }
    }

    private static void carried() {
        SixDays x = withPerson();
        rules(x, "pool exact;seamen 10");
        for (int p = 0; p < 6; p++) {
            x.bet(p, 0, 7, 100, 0);
            x.day(p, 8);
        }
        for (int p = 0; p < 6; p++) {
            pool(x, p, 100, 10, 90 * (p + 1), 0, 90 * (p + 1));
        }
        x.day(2, 7);
        due("with what is carried to it", x.wins(2), 270);
        pool(x, 2, 100, 10, 270, 1, 0);
        pool(x, 3, 100, 10, 90, 0, 90);
        x.bet(2, 0, 7, 1, 0);
        x.bet(2, 0, 7, 1, 0);
        x.bet(2, 0, 7, 3, 0);
        pool(x, 2, 105, 10, 275, 4, 3);
        due("left over goes on", x.pool(3, 2), 93);
    }

    private static void notKnown() {
        SixDays x = withPerson();
        x.bet(0, 0, 1, 50, 0);
        x.bet(5, 0, 1, 50, 0);
        for (int p = 5; p > 0; p--) {
            x.day(p, 1);
            due("one ahead is not known", x.pool(5, 0), -1);
            due("and brings nothing", x.wins(1), 0);
        }
        x.day(0, 1);
        due("all known", x.pool(5, 0), 50);
        due("and brings it", x.wins(1), 50);
        x.day(4, -1);
        due("one not any more", x.wins(1), 0);
        due("that ahead of it stays", x.wins(0), 50);
        due("pool(3, 0)", x.pool(3, 0), 0);
        due("pool(4, 0)", x.pool(4, 0), -1);
    }

    private static void dearest() {
        SixDays x = withPerson();
        for (int i = 0; i < 100; i++) {
            x.bet(0, 0, 3, 10000, 35);
        }
        x.day(0, 3);
        rules(x, "seamen 99");
        pool(x, 0, 1000000, 990000, 10000, 100, 0);
        due("wins(99)", x.wins(99), 100);
    }

    /** Against the words of the document told once more, plainly, for bets drawn by a fixed seed. */
    private static void drawn() {
        Random random = new Random(25);
        String[] kinds = {"nearest", "below", "exact"};
        for (int round = 0; round < 300; round++) {
            SixDays x = withPerson();
            int kind = random.nextInt(3);
            int seamen = random.nextInt(101);
            int close = random.nextInt(36);
            int least = random.nextInt(20);
            int most = least + random.nextInt(40);
            rules(x, "pool " + kinds[kind] + ";seamen " + seamen + ";close " + close + ";stake " + least + " to "
                + most);
            int[][] bets = new int[random.nextInt(30)][];
            for (int b = 0; b < bets.length; b++) {
                bets[b] = new int[]{random.nextInt(3), random.nextInt(12), random.nextInt(60), random.nextInt(36)};
                x.bet(bets[b][0], 0, bets[b][1], bets[b][2], bets[b][3]);
            }
            int carried = 0;
            for (int p = 0; p < 3; p++) {
                int day = random.nextInt(12);
                x.day(p, day);
                boolean[] wins = new boolean[bets.length];
                int stakes = 0;
                int winners = 0;
                for (int b = 0; b < bets.length; b++) {
                    boolean valid = bets[b][0] == p && bets[b][3] <= close && bets[b][2] >= least && bets[b][2] <= most;
                    stakes += valid ? bets[b][2] : 0;
                    wins[b] = valid;
                    for (int[] other : bets) {
                        boolean rival = other[0] == p && other[3] <= close && other[2] >= least && other[2] <= most
                            && (kind == 0 || other[1] <= day);
                        wins[b] &= !(rival && Math.abs(other[1] - day) < Math.abs(bets[b][1] - day));
                    }
                    wins[b] &= kind == 0 || kind == 1 && bets[b][1] <= day || bets[b][1] == day;
                    winners += wins[b] ? 1 : 0;
                }
                int rest = stakes - stakes * seamen / 100 + carried;
                int share = winners == 0 ? 0 : rest / winners;
                carried = winners == 0 ? rest : rest % winners;
                pool(x, p, stakes, stakes * seamen / 100, rest, winners, carried);
                for (int b = 0; b < bets.length; b++) {
                    if (bets[b][0] == p) {
                        due("round " + round + ": wins(" + b + ")", x.wins(b), wins[b] ? share : 0);
                    }
                }
            }
        }
    }
}
