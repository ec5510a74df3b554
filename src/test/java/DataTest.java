/** Promise 11, and step 5 of a payment: DATA. */
public final class DataTest {
    public static void main(String[] args) {
        Check c = new Check();
        PayChain none = new PayChain();
        c.due("before the first payment", none.data(0), PayChain.REFUSED);
        demands(c);
        sizes(c);
        longest(c);
        lastPaymentOnly(c);
        c.end();
    }

    private static PayChain with(int... list) {
        PayChain x = new PayChain();
        new CardText().with(90, 2).with(24356, 0, 100).with(140, list).make(x, 0, 7, 1);
        return x;
    }

    private static void due(Check c, String what, PayChain x, int... bytes) {
        for (int i = 0; i < bytes.length; i++) {
            c.due(what + ", byte " + i, x.data(i), bytes[i]);
        }
        int[] none = {-1, bytes.length, Integer.MIN_VALUE, Integer.MAX_VALUE};
        for (int i : none) {
            c.due(what + ", byte " + i, x.data(i), PayChain.REFUSED);
        }
    }

    private static void demands(Check c) {
        PayChain x = with(154, 2, 159, 2, 3, 90, 2, 149, 2, 159, 55, 1, 95, 36, 1);
        x.setting(1, 65000);
        x.pay(0, 1, -1, 0);
        x.pay(0, 999999, -1, 0);
        due(c, "day, amount, other, flags, number, other", x,
                65000 / 256, 65000 % 256, 15, 66, 63, 0, 0, 2, 65, 2, 0);
        c.due("FLAGS of it", x.last(1), 2 * 256 + 65);
    }

    private static void sizes(Check c) {
        PayChain x = with(159, 2, 0, 159, 2, 1, 159, 2, 2, 159, 2, 4, 159, 2, 5, 159, 2, 9, 149, 1);
        x.pay(0, 999999, -1, 0);
        due(c, "lowest bytes", x, 63, 66, 63, 0, 15, 66, 63, 0, 0, 15, 66, 63,
                0, 0, 0, 0, 0, 0, 15, 66, 63, 64);
        PayChain eight = with(149, 1, 149, 1, 149, 1, 149, 1, 149, 1, 149, 1, 149, 1, 159, 55, 1);
        eight.pay(0, 5, -1, 0);
        due(c, "8 demands", eight, 64, 64, 64, 64, 64, 64, 64, 1);
        PayChain empty = with();
        empty.pay(0, 5, -1, 0);
        due(c, "no demands", empty);
    }

    private static void longest(Check c) {
        PayChain x = with(159, 55, 40);
        x.pay(0, 5, -1, 0);
        int[] bytes = new int[40];
        bytes[39] = 1;
        due(c, "40 bytes", x, bytes);
        int[] row = new int[43];
        row[0] = 2;
        row[2] = 1;
        row[42] = 1;
        c.due("cryptogram of 43 bytes", x.last(4), Check.mac(7, row));
    }

    private static void lastPaymentOnly(Check c) {
        PayChain x = with(159, 2, 4);
        new CardText().with(90, 2).with(24356, 0, 100).with(140, 159, 55, 1).make(x, 1, 7, 1);
        x.pay(0, 5, -1, 0);
        x.pay(1, 5, -1, 0);
        due(c, "shorter than the one before", x, 2);
        x.pay(1, 0, -1, 0);
        due(c, "after a refused one", x, 2);
        CardText.needed().make(x, 1, 7, 1);
        due(c, "after the card was made anew", x, 2);
        x.setting(2, 1);
        x.setting(6, 65535);
        x.account(2, 100, 9);
        new CardText().with(90, 2).with(24356, 0, 100).with(140, 149, 2).make(x, 1, 7, 1);
        x.pay(1, 5, -1, 0);
        c.due("flag 1024", x.last(1), 1024 + 512 + 64);
        due(c, "FLAGS as they were before the host", x, 2, 64);
    }
}
