/** Promises 29 and 30: ill, met. */
public final class SicknessTest {
    private static final int LOW = Integer.MIN_VALUE;
    private static final int HIGH = Integer.MAX_VALUE;
    private static final Check CHECK = new Check();

    public static void main(String[] args) {
        wrongNumbers();
        inOneCabin();
        atOneSitting();
        classesDoNotMeet();
        bothIll();
        CHECK.finish();
    }

    private static void due(String call, int got, int want) {
        CHECK.due(call, got, want);
    }

    private static void wrongNumbers() {
        SixDays x = new SixDays();
        due("ill of nobody", x.ill(0, 0), -2);
        due("met of nobody", x.met(0), -1);
        x.person(0, 0, 7, -1);
        int[] wrong = {-2, 7, LOW, HIGH};
        for (int w : wrong) {
            due("ill(0, " + w + ")", x.ill(0, w), -1);
            due("status()", x.status(), -1);
            due("ill(5, " + w + ")", x.ill(5, w), -1);
        }
        int[] nobody = {-1, 1, 100, LOW, HIGH};
        for (int p : nobody) {
            due("ill(" + p + ", 0)", x.ill(p, 0), -2);
            due("met(" + p + ")", x.met(p), -1);
        }
        due("ill(0, 6)", x.ill(0, 6), 0);
        due("status()", x.status(), 0);
        due("ill(0, -1)", x.ill(0, -1), 0);
        due("met by itself", x.met(0), 0);
    }

    private static void inOneCabin() {
        SixDays x = new SixDays();
        x.cabin(0, 2);
        x.cabin(0, 2);
        x.person(0, 0, 5, 1);
        x.person(0, 3, 7, 1);
        x.person(0, 5, 7, 1);
        x.person(0, 3, 7, 2);
        for (int p = 0; p < 4; p++) {
            x.book(p);
        }
        due("berth(1)", x.berth(1), 1);
        due("berth(2)", x.berth(2), 0);
        due("nobody ill", x.met(1), 0);
        x.ill(0, 0);
        due("together on legs 3, 4", x.met(1), 1);
        due("the same berth, not the same leg", x.met(2), 0);
        due("in another cabin", x.met(3), 0);
        due("not by itself", x.met(0), 0);
        x.ill(0, 4);
        due("ill from leg 4: together then", x.met(1), 1);
        x.ill(0, 5);
        due("ill from leg 5: not any more aboard", x.met(1), 0);
        x.ill(0, 2);
        due("ill from leg 2 on", x.met(1), 1);
        x.cancel(1);
        due("without a berth", x.met(1), 0);
        x.book(1);
        due("with one again", x.met(1), 1);
        x.cancel(0);
        due("the ill one without a berth", x.met(1), 0);
        x.book(0);
        due("the ill one with one again", x.met(1), 1);
        x.ill(0, -1);
        due("not ill any more", x.met(1), 0);
    }

    private static void atOneSitting() {
        SixDays x = new SixDays();
        x.cabin(0, 1);
        x.cabin(0, 1);
        x.cabin(0, 1);
        for (int p = 0; p < 3; p++) {
            x.person(0, 0, 7, p);
            x.book(p);
        }
        x.ill(0, 3);
        x.seats(0, 2, 0, 0);
        due("dine(2, 0)", x.dine(2, 0), 2);
        due("ahead of the illness", x.met(1), 0);
        due("dine(4, 0)", x.dine(4, 0), 2);
        due("at one sitting", x.met(1), 1);
        due("who does not dine", x.met(2), 0);
        x.seats(0, 0, 1, 1);
        due("at one sitting as made latest", x.met(1), 1);
        due("dine(4, 0) again", x.dine(4, 0), 2);
        due("apart now", x.met(1), 0);
        x.seats(0, 0, 0, 0);
        due("nobody dines", x.dine(4, 0), 0);
        due("none of them together", x.met(1), 0);
        x.seats(0, 0, 0, 3);
        due("all dine", x.dine(6, 0), 3);
        due("the third, too", x.met(2), 1);
        x.cancel(2);
        due("as it was made", x.met(2), 1);
        x.cancel(0);
        due("as it was made with the ill one", x.met(1), 1);
    }

    private static void classesDoNotMeet() {
        SixDays x = new SixDays();
        x.cabin(0, 1);
        x.cabin(1, 1);
        x.person(0, 0, 7, -1);
        x.person(1, 0, 7, -1);
        x.book(0);
        x.book(1);
        x.seats(0, 1, 0, 0);
        x.seats(1, 1, 0, 0);
        due("dine(0, 0)", x.dine(0, 0), 1);
        due("dine(0, 1)", x.dine(0, 1), 1);
        x.ill(0, 0);
        due("sitting 0 of another class", x.met(1), 0);
    }

    private static void bothIll() {
        SixDays x = new SixDays();
        x.cabin(2, 4);
        x.person(2, 0, 7, -1);
        x.person(2, 0, 7, -1);
        x.book(0);
        x.book(1);
        x.ill(0, 6);
        due("met(0) by none", x.met(0), 0);
        x.ill(1, 6);
        due("met(0) by the other", x.met(0), 1);
        due("met(1) by the other", x.met(1), 1);
    }
}
