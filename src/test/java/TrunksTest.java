/** Promises 26 to 28: trunk, see, where. */
public final class TrunksTest {
    private static final int LOW = Integer.MIN_VALUE;
    private static final int HIGH = Integer.MAX_VALUE;
    private static final Check CHECK = new Check();

    public static void main(String[] args) {
        trunks();
        seen();
        where();
        CHECK.finish();
    }

    private static void due(String call, int got, int want) {
        CHECK.due(call, got, want);
    }

    private static void trunks() {
        SixDays x = new SixDays();
        due("trunk of nobody", x.trunk(0), -2);
        due("status()", x.status(), -2);
        x.person(0, 0, 1, -1);
        x.person(0, 0, 1, -1);
        for (int i = 0; i < 40; i++) {
            due("trunk " + i, x.trunk(i % 2), i);
        }
        due("trunk 40", x.trunk(0), -5);
        due("status()", x.status(), -5);
        int[] nobody = {-1, 2, 100, LOW, HIGH};
        for (int p : nobody) {
            due("trunk(" + p + ") without room", x.trunk(p), -2);
        }
        due("count(5)", x.count(5), 40);
    }

    private static void seen() {
        SixDays x = new SixDays();
        x.person(0, 0, 1, -1);
        x.trunk(0);
        int[][] wrong = {{0, -1, 0, 0}, {0, 100, 0, 0}, {0, 0, -1, 0}, {0, 0, 36, 0}, {0, 0, 0, -1}, {0, 0, 0, 36},
            {9, 100, 0, 0}, {LOW, LOW, LOW, LOW}, {HIGH, HIGH, HIGH, HIGH}};
        for (int[] w : wrong) {
            due("a wrong see", x.see(w[0], w[1], w[2], w[3]), -1);
            due("status()", x.status(), -1);
        }
        int[] none = {-1, 1, 40, LOW, HIGH};
        for (int t : none) {
            due("see(" + t + ", 0, 0, 0)", x.see(t, 0, 0, 0), -2);
        }
        for (int i = 1; i <= 200; i++) {
            due("see " + i, x.see(0, i % 100, i % 36, 35), i);
        }
        due("see 201", x.see(0, 0, 0, 0), -5);
        due("status()", x.status(), -5);
        due("no such trunk, no room", x.see(1, 0, 0, 0), -2);
        due("count(6)", x.count(6), 200);
        due("the one told last of watch 35", x.where(0, 35, 35), 79);
    }

    private static void where() {
        SixDays x = new SixDays();
        x.person(0, 0, 1, -1);
        x.trunk(0);
        x.trunk(0);
        due("never seen", x.where(0, 35, 35), -1);
        x.see(0, 10, 8, 20);
        x.see(0, 11, 6, 10);
        x.see(0, 12, 6, 12);
        x.see(0, 13, 0, 35);
        x.see(1, 14, 35, 0);
        due("nothing known yet", x.where(0, 35, 9), -1);
        due("known in 10", x.where(0, 35, 10), 11);
        due("known in 11", x.where(0, 6, 11), 11);
        due("known in 12: told later of alike ones", x.where(0, 6, 12), 12);
        due("not behind that watch", x.where(0, 7, 35), 12);
        due("the latest watch, though told first", x.where(0, 8, 20), 10);
        due("in watch 0", x.where(0, 0, 35), 13);
        due("in watch 0, not known", x.where(0, 0, 34), -1);
        due("in watch 5", x.where(0, 5, 35), 13);
        due("the other trunk", x.where(1, 35, 0), 14);
        due("the other trunk, ahead of it", x.where(1, 34, 35), -1);
        int[][] none = {{-1, 35, 35}, {2, 35, 35}, {0, -1, 35}, {0, 36, 35}, {0, 35, -1}, {0, 35, 36}, {LOW, LOW, LOW},
            {HIGH, HIGH, HIGH}};
        for (int[] n : none) {
            due("where(" + n[0] + ", " + n[1] + ", " + n[2] + ")", x.where(n[0], n[1], n[2]), -1);
        }
        x.see(0, 0, 6, 0);
        due("told last of alike ones, known first", x.where(0, 6, 35), 0);
    }
}
