import java.util.Random;

/** Promises 31 and 32: count, status; and calls of any kind, which must all answer. */
public final class StateTest {
    private static final Check CHECK = new Check();

    public static void main(String[] args) {
        counts();
        statusOfThoseRefused();
        statusStays();
        fullObject();
        anyCalls();
        CHECK.finish();
    }

    private static void due(String call, int got, int want) {
        CHECK.due(call, got, want);
    }

    private static void counts() {
        SixDays x = new SixDays();
        x.cabin(0, 4);
        x.cabin(0, 4);
        x.person(0, 0, 1, -1);
        x.person(0, 0, 1, -1);
        x.person(0, 0, 1, -1);
        x.book(1);
        RulesTest.feed(x, "close 1;close 2;close 3;close 4");
        x.rules();
        for (int i = 0; i < 5; i++) {
            x.bet(0, 0, 0, 0, 0);
        }
        for (int i = 0; i < 6; i++) {
            x.trunk(0);
        }
        for (int i = 0; i < 7; i++) {
            x.see(0, 0, 0, 0);
        }
        x.feed(0, 0, 0, 0, 0);
        x.end(8);
        int[] wanted = {2, 3, 1, 4, 5, 6, 7, 8};
        for (int what = 0; what < wanted.length; what++) {
            due("count(" + what + ")", x.count(what), wanted[what]);
        }
        int[] others = {-1, 8, Integer.MIN_VALUE, Integer.MAX_VALUE};
        for (int what : others) {
            due("count(" + what + ")", x.count(what), -1);
        }
        x.cancel(1);
        due("count(2) behind cancel", x.count(2), 0);
    }

    /** Each call that can be refused tells its code, and 0 again once it is not refused. */
    private static void statusOfThoseRefused() {
        SixDays x = new SixDays();
        x.cabin(0, 1);
        for (int i = 0; i < 16; i++) {
            int code = refused(x, i);
            due("status() of refused " + i, x.status(), code);
            granted(x, i);
            due("status() of granted " + i, x.status(), 0);
        }
    }

    private static int refused(SixDays x, int which) {
        switch (which) {
            case 0: return x.cabin(3, 1);
            case 1: return x.person(0, 1, 1, 0);
            case 2: return x.book(50);
            case 3: return x.cancel(50);
            case 4: return x.seats(0, 0, 0, 101);
            case 5: return x.wish(50, 0);
            case 6: return x.dine(0, 9);
            case 7: return x.burn(0, 1001);
            case 8: return x.storm(0, 0, 101);
            case 9: return x.run(3000, 0, 1, 0, 24);
            case 10: x.feed(0, 0, 0, 0, 0); return x.rules();
            case 11: return x.bet(0, 50, 0, 0, 0);
            case 12: return x.day(9, 0);
            case 13: return x.trunk(50);
            case 14: return x.see(30, 0, 0, 0);
            default: return x.ill(50, 0);
        }
    }

    private static void granted(SixDays x, int which) {
        switch (which) {
            case 0: x.cabin(0, 4); break;
            case 1: x.person(0, 0, 7, 0); break;
            case 2: x.book(0); break;
            case 3: x.cancel(0); break;
            case 4: x.seats(0, 1, 1, 1); break;
            case 5: x.wish(0, 0); break;
            case 6: x.dine(0, 0); break;
            case 7: x.burn(0, 0); break;
            case 8: x.storm(0, 0, 0); break;
            case 9: x.run(10, 0, 1, 0, 24); break;
            case 10: x.rules(); break;
            case 11: x.bet(0, 0, 0, 0, 0); break;
            case 12: x.day(0, 0); break;
            case 13: x.trunk(0); break;
            case 14: x.see(0, 0, 0, 0); break;
            default: x.ill(0, 0); break;
        }
    }

    private static void statusStays() {
        SixDays x = new SixDays();
        x.book(0);
        x.berth(9);
        x.who(9, 9, 9);
        x.aboard(9, 9);
        x.sitting(9, 9);
        x.miles(99, 99);
        x.steamed(99, 9);
        x.end(201);
        x.end(0);
        x.feed(0, 0, 0, 0, 0);
        x.fault();
        x.wins(9);
        x.pool(9, 9);
        x.where(9, 9, 9);
        x.met(9);
        x.count(9);
        x.status();
        due("those that can't be refused leave status()", x.status(), -2);
    }

    /** All that there can be at once, within 512 calls. */
    private static void fullObject() {
        SixDays x = new SixDays();
        for (int i = 0; i < 20; i++) {
            x.cabin(0, 4);
        }
        for (int i = 0; i < 100; i++) {
            x.person(0, 0, 7, i < 20 ? i / 2 : 29);
        }
        for (int i = 0; i < 100; i++) {
            x.bet(5, 99, 1000, 10000, 35);
        }
        for (int i = 0; i < 40; i++) {
            x.trunk(99);
        }
        for (int i = 0; i < 200; i++) {
            x.see(39, 99, 35, 35);
        }
        due("aboard(0, 6)", x.aboard(0, 6), 0);
        due("book(99)", x.book(99), 0);
        due("book(98)", x.book(98), 1);
        due("aboard(0, 0)", x.aboard(0, 0), 2);
        due("seats", x.seats(0, 0, 0, 2), 0);
        due("dine(6, 0)", x.dine(6, 0), 2);
        due("sitting(6, 99)", x.sitting(6, 99), 2);
        due("ill(99, 6)", x.ill(99, 6), 0);
        due("met(98)", x.met(98), 1);
        due("met(99)", x.met(99), 0);
        due("met(100)", x.met(100), -1);
        due("wins(99)", x.wins(99), 0);
        for (int p = 0; p < 6; p++) {
            x.day(p, 1000);
        }
        due("wins(99) of a day that is known", x.wins(99), 10000);
        due("wins(100)", x.wins(100), 0);
        due("pool(5, 3)", x.pool(5, 3), 100);
        due("where(39, 35, 35)", x.where(39, 35, 35), 99);
        due("where(40, 35, 35)", x.where(40, 35, 35), -1);
        due("who(19, 3, 6)", x.who(19, 3, 6), -1);
    }

    /** No call may throw or fail to end, whatever it is given. */
    private static void anyCalls() {
        Random random = new Random(32);
        for (int round = 0; round < 300; round++) {
            SixDays x = new SixDays();
            int wide = 2 + random.nextInt(30);
            // A text takes three calls more.
            for (int i = 0; i < 400; i++) {
                int answer = anyCall(x, random, wide);
                due("an answer below all codes", Math.min(answer, -6), -6);
            }
        }
    }

    private static int any(Random random, int wide) {
        int[] edges = {-1, 0, 1, 3, 4, 6, 7, 20, 24, 29, 30, 35, 36, 99, 100, 101, 200, 1000, 1001, 3000, 3001, 10000,
            Integer.MIN_VALUE, Integer.MAX_VALUE};
        return random.nextInt(8) == 0 ? edges[random.nextInt(edges.length)] : random.nextInt(wide);
    }

    private static int anyCall(SixDays x, Random random, int wide) {
        int a = any(random, wide);
        int b = any(random, wide);
        int c = any(random, wide);
        int d = any(random, wide);
        int e = any(random, wide);
        switch (random.nextInt(33)) {
            case 0: return x.cabin(a, b);
            case 1: return x.person(a, b, c, d);
            case 2: return x.book(a);
            case 3: return x.cancel(a);
            case 4: return x.berth(a);
            case 5: return x.who(a, b, c);
            case 6: return x.aboard(a, b);
            case 7: return x.seats(a, b, c, d);
            case 8: return x.wish(a, b);
            case 9: return x.dine(a, b);
            case 10: return x.sitting(a, b);
            case 11: return x.burn(a, b);
            case 12: return x.storm(a, b, c);
            case 13: return x.miles(a, b);
            case 14: return x.run(a * 10, b, c, d, e);
            case 15: return x.steamed(a, b);
            case 16: RulesTest.feed(x, "close 3;pool exact"); return x.feed(a, b, c, d, e);
            case 17: return x.end(a);
            case 18: return x.rules();
            case 19: return x.fault();
            case 20: return x.bet(a, b, c, d, e);
            case 21: return x.day(a, b);
            case 22: return x.wins(a);
            case 23: return x.pool(a, b);
            case 24: return x.trunk(a);
            case 25: return x.see(a, b, c, d);
            case 26: return x.where(a, b, c);
            case 27: return x.ill(a, b);
            case 28: return x.met(a);
            case 29: return x.count(a);
            case 30: return x.person(a % 3, b % 7, 7, c % 4 - 1);
            case 31: return x.cabin(a % 3, 4);
            default: return x.status();
        }
    }
}
