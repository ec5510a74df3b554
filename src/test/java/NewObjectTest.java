/** Promise 1: a new object. */
public final class NewObjectTest {
    public static void main(String[] args) {
        Check c = new Check();
        PayChain x = new PayChain();
        c.due("place before the first make", x.place(), PayChain.REFUSED);
        for (int what = 0; what < 5; what++) {
            c.due("count(" + what + ")", x.count(what), 0);
        }
        for (int account = 0; account < 8; account++) {
            c.due("balance(" + account + ")", x.balance(account), 0);
        }
        for (int card = 0; card < 4; card++) {
            c.due("card(" + card + ", 0)", x.card(card, 0), PayChain.REFUSED);
            c.due("pay with card " + card, x.pay(card, 1, -1, 0), PayChain.REFUSED);
        }
        c.due("queued(0)", x.queued(0), PayChain.REFUSED);
        c.due("send(0)", x.send(0), PayChain.REFUSED);
        c.due("wipe", x.wipe(), 0);
        settingsAndAccountsAreZero(c);
        c.end();
    }

    /** FLOOR, day, connection, pad and masks show in a payment; keys and LAST of accounts too. */
    private static void settingsAndAccountsAreZero(Check c) {
        PayChain x = new PayChain();
        c.due("make", new CardText().with(90, 2).with(24356, 0, 0).with(140)
                .with(142, 0, 0, 1, 0).make(x, 0, 0, 1), 4);
        c.due("offline payment", x.pay(0, 1, 1, 0), PayChain.APPROVED);
        c.due("flags: no pad, floor 0, day 0", x.last(1), 512 + 64 + 16 + 4);
        c.due("WISH", x.last(2), 2);
        x.setting(2, 1);
        x.setting(6, 65535);
        c.due("payment at the host", x.pay(0, 1, 1, 0), PayChain.DECLINED);
        c.due("CODE 4: the key 0 is right, LAST is 0, the balance 0", x.last(7), 4);
    }
}
