import java.util.Arrays;
import java.util.Random;

/** Promises 13 to 17: burn, storm, miles, run, steamed. */
public final class EngineTest {
    private static final int LOW = Integer.MIN_VALUE;
    private static final int HIGH = Integer.MAX_VALUE;
    private static final Check CHECK = new Check();

    public static void main(String[] args) {
        burns();
        storms();
        leastTons();
        thereFirst();
        firstRow();
        behindTheMiles();
        noMiles();
        cannotBeMade();
        keptAsMade();
        wrongRuns();
        wholeCrossing();
        allWays();
        longRuns();
        CHECK.finish();
    }

    private static void due(String call, int got, int want) {
        CHECK.due(call, got, want);
    }

    private static void burns() {
        SixDays x = new SixDays();
        for (int k = 0; k <= 24; k++) {
            due("burn untold of " + k, x.run(0, 0, 1, k, k), 20 * k);
        }
        due("burn(7, 0)", x.burn(7, 0), 0);
        due("burn(0, 1000)", x.burn(0, 1000), 0);
        due("of 7", x.run(0, 0, 1, 7, 7), 0);
        due("of 0", x.run(0, 0, 1, 0, 0), 2000);
        int[][] wrong = {{-1, 0}, {25, 0}, {7, -1}, {7, 1001}, {LOW, 5}, {HIGH, 5}, {7, LOW}, {7, HIGH}};
        for (int[] w : wrong) {
            due("burn(" + w[0] + ", " + w[1] + ")", x.burn(w[0], w[1]), -1);
            due("status()", x.status(), -1);
        }
        due("of 7 as told", x.run(0, 0, 1, 7, 7), 0);
    }

    private static void storms() {
        SixDays x = new SixDays();
        due("storm(3, 5, 33)", x.storm(3, 5, 33), 0);
        due("storm(5, 5, 100)", x.storm(5, 5, 100), 0);
        due("storm(35, 35, 1)", x.storm(35, 35, 1), 0);
        due("miles(2, 24)", x.miles(2, 24), 96);
        due("miles(3, 7)", x.miles(3, 7), 18);
        due("miles(4, 1)", x.miles(4, 1), 2);
        due("miles(5, 24)", x.miles(5, 24), 0);
        due("miles(6, 24)", x.miles(6, 24), 96);
        due("miles(35, 24)", x.miles(35, 24), 95);
        due("miles(0, 0)", x.miles(0, 0), 0);
        int[][] wrong = {{-1, 0, 1}, {0, 36, 1}, {3, 2, 1}, {0, 1, -1}, {0, 1, 101}, {LOW, HIGH, 0}, {0, 1, LOW},
            {0, 1, HIGH}, {36, 36, 0}};
        for (int[] w : wrong) {
            due("storm(" + w[0] + ", " + w[1] + ", " + w[2] + ")", x.storm(w[0], w[1], w[2]), -1);
            due("status()", x.status(), -1);
        }
        due("storms stay", x.miles(3, 24), 64);
        due("storm(0, 35, 0)", x.storm(0, 35, 0), 0);
        due("a storm told again", x.miles(5, 24), 96);
        int[][] none = {{-1, 0}, {36, 0}, {0, -1}, {0, 25}, {LOW, LOW}, {HIGH, HIGH}};
        for (int[] n : none) {
            due("miles(" + n[0] + ", " + n[1] + ")", x.miles(n[0], n[1]), -1);
        }
    }

    private static void row(SixDays x, int from, int... knots) {
        for (int i = 0; i < knots.length; i++) {
            due("knots of watch " + (from + i), x.steamed(from + i, 0), knots[i]);
        }
        due("watch ahead", from == 0 ? -1 : x.steamed(from - 1, 0), -1);
        due("watch behind", x.steamed(from + knots.length, 0), -1);
    }

    private static void leastTons() {
        SixDays x = new SixDays();
        x.burn(10, 30);
        due("cheap knots", x.run(60, 2, 3, 0, 24), 60);
        row(x, 2, 10, 10);
        due("made in 2", x.steamed(2, 1), 40);
        due("made in 3", x.steamed(3, 1), 80);
        due("there", x.steamed(-1, 0), 3);
    }

    private static void thereFirst() {
        SixDays x = new SixDays();
        due("ties in tons", x.run(20, 4, 6, 0, 24), 50);
        row(x, 4, 5, 0, 0);
        due("there in the first", x.steamed(-1, 0), 4);
        x.storm(4, 4, 100);
        due("behind the storm", x.run(20, 4, 6, 0, 24), 50);
        row(x, 4, 0, 5, 0);
        due("there in the second", x.steamed(-1, 0), 5);
    }

    private static void firstRow() {
        SixDays x = new SixDays();
        due("ties in tons and arrival", x.run(120, 0, 1, 0, 20), 300);
        row(x, 0, 10, 20);
        x.burn(12, 110);
        x.burn(18, 190);
        due("same tons, same arrival, lower first", x.run(120, 0, 1, 10, 20), 300);
        row(x, 0, 10, 20);
    }

    private static void behindTheMiles() {
        SixDays x = new SixDays();
        x.burn(2, 500);
        due("rather late, as the lowest is dear", x.run(40, 0, 3, 2, 10), 120);
        row(x, 0, 3, 3, 3, 3);
        due("there in the last", x.steamed(-1, 0), 3);
        due("dear behind", x.run(80, 0, 1, 2, 20), 200);
        row(x, 0, 3, 17);
        due("no way but there at once", x.run(8, 0, 2, 2, 2), 1500);
        row(x, 0, 2, 2, 2);
        due("more than asked", x.steamed(2, 1), 24);
        due("there at once", x.steamed(-1, 0), 0);
    }

    private static void noMiles() {
        SixDays x = new SixDays();
        x.burn(5, 0);
        due("no miles: the lowest knots", x.run(0, 34, 35, 4, 6), 80);
        row(x, 34, 4, 4);
        due("made", x.steamed(35, 1), 32);
        due("there", x.steamed(-1, 0), -1);
    }

    private static void cannotBeMade() {
        SixDays x = new SixDays();
        due("too many", x.run(193, 0, 1, 0, 24), -6);
        due("status()", x.status(), -6);
        due("nothing kept", x.steamed(0, 0), -1);
        due("just so many", x.run(192, 0, 1, 0, 24), 480);
        x.storm(0, 35, 100);
        due("no way in the storm", x.run(1, 0, 35, 0, 24), -6);
        due("kept", x.steamed(1, 1), 192);
        due("no miles in the storm", x.run(0, 0, 35, 0, 24), 0);
    }

    private static void keptAsMade() {
        SixDays x = new SixDays();
        due("made", x.run(100, 0, 1, 0, 24), 250);
        x.storm(0, 35, 50);
        x.burn(24, 1000);
        due("refused", x.run(100, 1, 0, 0, 24), -1);
        row(x, 0, 1, 24);
        due("miles as made", x.steamed(0, 1), 4);
        due("what 2", x.steamed(0, 2), -1);
        due("what -1", x.steamed(0, -1), -1);
        due("watch -1, what 1", x.steamed(-1, 1), -1);
        due("watch -2", x.steamed(-2, 0), -1);
        due("watch 36", x.steamed(36, 0), -1);
        due("far off", x.steamed(HIGH, LOW), -1);
        due("farther off", x.steamed(LOW, HIGH), -1);
    }

    private static void wrongRuns() {
        SixDays x = new SixDays();
        int[][] wrong = {{-1, 0, 1, 0, 24}, {3001, 0, 35, 0, 24}, {0, -1, 1, 0, 24}, {0, 0, 36, 0, 24},
            {0, 2, 1, 0, 24}, {0, 2, 2, 0, 24}, {0, 0, 1, -1, 24}, {0, 0, 1, 0, 25}, {0, 0, 1, 6, 5},
            {LOW, LOW, LOW, LOW, LOW}, {HIGH, HIGH, HIGH, HIGH, HIGH}, {3001, 0, 1, 0, 0}};
        for (int[] w : wrong) {
            due("run(" + w[0] + ", " + w[1] + ", " + w[2] + ", " + w[3] + ", " + w[4] + ")",
                x.run(w[0], w[1], w[2], w[3], w[4]), -1);
            due("status()", x.status(), -1);
        }
        due("nothing kept", x.steamed(0, 0), -1);
    }

    private static void wholeCrossing() {
        SixDays x = new SixDays();
        due("3000 miles", x.run(3000, 0, 35, 0, 24), 7500);
        due("there", x.steamed(-1, 0), 31);
        due("the slow watch first", x.steamed(0, 0), 6);
        due("made in all", x.steamed(35, 1), 3000);
        due("the most of all", x.run(3000, 0, 35, 24, 24), 8640);
        due("made by then", x.steamed(35, 1), 3456);
    }

    private static int miles(int[] storm, int watch, int knots) {
        return 4 * knots * (100 - storm[watch]) / 100;
    }

    /** Against a plain table of all MILES at all WATCHES, for long runs drawn by a fixed seed. */
    private static void longRuns() {
        Random random = new Random(17);
        for (int round = 0; round < 120; round++) {
            SixDays x = new SixDays();
            int[] burn = new int[25];
            for (int k = 0; k < 25; k++) {
                burn[k] = random.nextInt(round % 2 == 0 ? 1001 : 1 + 12 * k);
                x.burn(k, burn[k]);
            }
            int[] storm = new int[36];
            for (int w = 0; w < 36; w++) {
                storm[w] = random.nextInt(2) * random.nextInt(1 + round % 101);
                x.storm(w, w, storm[w]);
            }
            int from = random.nextInt(20);
            int to = from + 12 + random.nextInt(36 - from - 12);
            int a = random.nextInt(5);
            int b = 25 - 1 - random.nextInt(10);
            int most = 0;
            for (int w = from; w <= to; w++) {
                most += miles(storm, w, b);
            }
            int miles = Math.min(3000, random.nextInt(most + 1));
            if (round == 0) {
                x = new SixDays();
                storm = new int[36];
                burn = new int[]{0, 10, 20, 30, 40, 50, 60, 70, 80, 90, 100, 110, 120, 130, 140, 150, 160, 170, 180,
                    190, 200, 210, 220, 230, 240};
                from = 0;
                to = 35;
                miles = 3000;
                b = 24;
            }
            plainRun(x, burn, storm, new int[]{miles, from, to, a, b}, "long round " + round);
        }
    }

    private static void plainRun(SixDays x, int[] burn, int[] storm, int[] run, String name) {
        int miles = run[0];
        int from = run[1];
        int to = run[2];
        int[][] tons = new int[to - from + 2][miles + 1];
        int[][] there = new int[to - from + 2][miles + 1];
        int[][] knots = new int[to - from + 2][miles + 1];
        int never = 1000000;
        Arrays.fill(tons[to - from + 1], never);
        tons[to - from + 1][0] = 0;
        for (int w = to; w >= from; w--) {
            int i = w - from;
            for (int rest = 0; rest <= miles; rest++) {
                tons[i][rest] = never;
                for (int k = run[3]; k <= (rest == 0 ? run[3] : run[4]); k++) {
                    int still = Math.max(0, rest - miles(storm, w, k));
                    int sum = tons[i + 1][still] >= never ? never : burn[k] + tons[i + 1][still];
                    int arrival = rest == 0 ? -1 : still == 0 ? w : there[i + 1][still];
                    if (sum < tons[i][rest] || sum < never && sum == tons[i][rest] && arrival < there[i][rest]) {
                        tons[i][rest] = sum;
                        there[i][rest] = arrival;
                        knots[i][rest] = k;
                    }
                }
            }
        }
        due(name + ": tons", x.run(miles, from, to, run[3], run[4]), tons[0][miles] >= never ? -6 : tons[0][miles]);
        due(name + ": there", x.steamed(-1, 0), there[0][miles]);
        int made = 0;
        for (int w = from; w <= to; w++) {
            int k = knots[w - from][Math.max(0, miles - made)];
            made += miles(storm, w, k);
            due(name + ": knots of " + w, x.steamed(w, 0), k);
            due(name + ": made by " + w, x.steamed(w, 1), made);
        }
    }

    private static int bestTons;
    private static int bestArrival;
    private static int[] bestRow;

    /** Against every way there is, for seas drawn by a fixed seed. */
    private static void allWays() {
        Random random = new Random(16);
        for (int round = 0; round < 600; round++) {
            SixDays x = new SixDays();
            int[] burn = new int[25];
            for (int k = 0; k < 25; k++) {
                burn[k] = 10 * k;
                if (random.nextInt(3) > 0) {
                    burn[k] = random.nextInt(1 + random.nextInt(60));
                    x.burn(k, burn[k]);
                }
            }
            int n = 2 + random.nextInt(4);
            int from = random.nextInt(36 - n + 1);
            int[] storm = new int[36];
            for (int i = 0; i < n; i++) {
                storm[from + i] = random.nextInt(3) == 0 ? random.nextInt(101) : 0;
                x.storm(from + i, from + i, storm[from + i]);
            }
            int a = random.nextInt(22);
            int b = Math.min(24, a + random.nextInt(4));
            int miles = random.nextInt(4 * n * (b + 1));
            bestRow = null;
            bestTons = Integer.MAX_VALUE;
            tryAll(storm, burn, new int[]{miles, from, a, b}, new int[n], 0);
            int tons = x.run(miles, from, from + n - 1, a, b);
            due("round " + round + ": tons", tons, bestRow == null ? -6 : bestTons);
            if (bestRow != null) {
                due("round " + round + ": there", x.steamed(-1, 0), bestArrival);
                int made = 0;
                for (int i = 0; i < n; i++) {
                    made += miles(storm, from + i, bestRow[i]);
                    due("round " + round + ": knots " + i, x.steamed(from + i, 0), bestRow[i]);
                    due("round " + round + ": made " + i, x.steamed(from + i, 1), made);
                }
            }
        }
    }

    private static void tryAll(int[] storm, int[] burn, int[] run, int[] row, int at) {
        if (at < row.length) {
            for (int k = run[2]; k <= run[3]; k++) {
                row[at] = k;
                tryAll(storm, burn, run, row, at + 1);
            }
            return;
        }
        int made = 0;
        int tons = 0;
        int arrival = -1;
        for (int i = 0; i < row.length; i++) {
            if (made >= run[0] && row[i] != run[2]) {
                return;
            }
            boolean ahead = made < run[0];
            made += miles(storm, run[1] + i, row[i]);
            tons += burn[row[i]];
            arrival = ahead && made >= run[0] ? run[1] + i : arrival;
        }
        if (made >= run[0] && (tons < bestTons || tons == bestTons && arrival < bestArrival)) {
            bestTons = tons;
            bestArrival = arrival;
            bestRow = row.clone();
        }
    }
}
