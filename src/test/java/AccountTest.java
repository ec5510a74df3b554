/** Promises 6 and 15: account and balance. */
public final class AccountTest {
    public static void main(String[] args) {
        Check c = new Check();
        PayChain x = new PayChain();
        for (int account = 0; account < 8; account++) {
            c.due("account " + account, x.account(account, 100 + account, account), 0);
        }
        for (int account = 0; account < 8; account++) {
            c.due("balance " + account, x.balance(account), 100 + account);
        }
        c.due("balance 0", x.account(0, 0, 1), 0);
        c.due("the largest", x.account(7, 9999999, Integer.MIN_VALUE), 0);
        c.due("balance(0)", x.balance(0), 0);
        c.due("balance(7)", x.balance(7), 9999999);
        int[][] refused = {{-1, 0}, {8, 0}, {1, -1}, {1, 10000000}, {Integer.MIN_VALUE, 0},
            {Integer.MAX_VALUE, 0}, {1, Integer.MIN_VALUE}, {1, Integer.MAX_VALUE}};
        String before = Check.state(x);
        for (int[] r : refused) {
            c.due("account(" + r[0] + ", " + r[1] + ", 5)", x.account(r[0], r[1], 5), PayChain.REFUSED);
        }
        c.same("after refused ones", Check.state(x), before);
        int[] none = {-1, 8, Integer.MIN_VALUE, Integer.MAX_VALUE};
        for (int account : none) {
            c.due("balance(" + account + ")", x.balance(account), PayChain.REFUSED);
        }
        keyAndLast(c);
        balanceGrowsOverTheLargest(c);
        c.end();
    }

    private static void keyAndLast(Check c) {
        PayChain x = new PayChain();
        x.setting(2, 1);
        x.setting(6, 65535);
        x.account(2, 1000, 8);
        CardText.needed().make(x, 0, 7, 0);
        CardText.needed().make(x, 1, 7, 0);
        x.pay(0, 1, -1, 0);
        c.due("another key", x.last(7), 2);
        x.account(2, 1000, 7);
        x.pay(0, 1, -1, 0);
        c.due("the card's key", x.last(7), 1);
        x.pay(1, 1, -1, 0);
        c.due("a counter that is not above LAST", x.last(7), 3);
        c.due("a refused account", x.account(2, 10000000, 7), PayChain.REFUSED);
        x.account(2, 500, 7);
        c.due("LAST is 0 again", x.pay(1, 1, -1, 0) * 10 + x.last(7), 11);
        c.due("balance", x.balance(2), 499);
    }

    private static void balanceGrowsOverTheLargest(Check c) {
        PayChain x = new PayChain();
        x.setting(2, 1);
        x.setting(6, 65535);
        x.account(2, 9999999, 7);
        CardText.needed().make(x, 0, 7, 0);
        x.pay(0, 999999, -1, 3);
        c.due("booked", x.balance(2), 9000000);
        x.account(2, 9999999, 7);
        x.send(0);
        c.due("reversed on top of the new balance", x.balance(2), 10999998);
    }
}
