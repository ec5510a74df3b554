/** Promises 10 and 17: last and count. */
public final class LastTest {
    public static void main(String[] args) {
        Check c = new Check();
        PayChain x = CardText.online();
        for (int what = 0; what < 9; what++) {
            c.due("last(" + what + ") before the first payment", x.last(what), 0);
        }
        refused(c, x);
        x.pay(0, 100, -1, 0);
        due(c, x, 1, 512 + 64, 1, 1, Check.mac(7, 1, 0, 1), 2, Check.mac(7, 2, 0, 1), 1, 1);
        x.setting(6, 0);
        x.pay(0, 100, -1, 0);
        due(c, x, 1, 64, 2, 2, Check.mac(7, 2, 0, 2), -1, 0, 0, 2);
        x.pay(0, 0, -1, 0);
        due(c, x, 1, 64, 2, 2, Check.mac(7, 2, 0, 2), -1, 0, 0, 2);
        x.setting(5, 64);
        x.pay(0, 100, -1, 0);
        due(c, x, 2, 64, 0, 0, Check.mac(7, 0, 0, 3), -1, 0, 0, 3);
        x.setting(5, 0);
        x.setting(6, 64);
        x.pay(0, 2000, -1, 0);
        due(c, x, 2, 64, 1, 1, Check.mac(7, 1, 0, 4), 0, Check.mac(7, 0, 0, 4), 4, 4);
        x.pay(0, 100, -1, 3);
        due(c, x, 3, 64, 1, 1, Check.mac(7, 1, 0, 5), -1, 0, 1, 5);
        refused(c, x);
        counts(c);
        c.end();
    }

    private static void due(Check c, PayChain x, int... all) {
        for (int what = 0; what < 9; what++) {
            c.due("last(" + what + ") of payment " + all[8], x.last(what), all[what]);
        }
    }

    private static void refused(Check c, PayChain x) {
        int[] none = {-1, 9, Integer.MIN_VALUE, Integer.MAX_VALUE};
        for (int what : none) {
            c.due("last(" + what + ")", x.last(what), PayChain.REFUSED);
        }
    }

    private static void counts(Check c) {
        PayChain x = CardText.online();
        countsAre(c, x, 0, 0, 0, 0, 0);
        x.feed(1);
        x.feed(2);
        x.pay(0, 10, -1, 0);
        countsAre(c, x, 2, 1, 0, 1, 1);
        x.pay(0, 5000, -1, 0);
        countsAre(c, x, 2, 2, 0, 1, 1);
        x.pay(0, 10, -1, 2);
        countsAre(c, x, 2, 3, 1, 2, 2);
        x.pay(0, 10, -1, 3);
        countsAre(c, x, 2, 4, 2, 2, 3);
        x.pay(0, 10, -1, 1);
        countsAre(c, x, 2, 5, 3, 3, 3);
        x.setting(6, 0);
        x.pay(0, 10, -1, 0);
        countsAre(c, x, 2, 6, 3, 4, 3);
        x.send(2);
        countsAre(c, x, 2, 6, 3, 4, 2);
        x.send(0);
        countsAre(c, x, 2, 6, 2, 4, 2);
        x.send(0);
        countsAre(c, x, 2, 6, 1, 4, 1);
        x.send(0);
        countsAre(c, x, 2, 6, 0, 4, 1);
        x.account(2, 0, 7);
        countsAre(c, x, 2, 6, 0, 4, 1);
        x.pay(0, 1000000, -1, 0);
        x.wipe();
        countsAre(c, x, 0, 6, 0, 4, 1);
        int[] none = {-1, 5, Integer.MIN_VALUE, Integer.MAX_VALUE};
        for (int what : none) {
            c.due("count(" + what + ")", x.count(what), PayChain.REFUSED);
        }
    }

    private static void countsAre(Check c, PayChain x, int... all) {
        for (int what = 0; what < 5; what++) {
            c.due("count(" + what + ") after " + all[1] + " payments", x.count(what), all[what]);
        }
    }
}
