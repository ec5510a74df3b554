/** The example of README.md answers as it says there. */
public final class ReadmeTest {
    public static void main(String[] args) {
        Check c = new Check();
        PayChain x = new PayChain();
        c.due("account", x.account(2, 1000, 7), 0);
        c.due("setting", x.setting(2, 1), 0);
        c.due("setting", x.setting(6, 65535), 0);
        int[] text = {90, 1, 2, 95, 36, 2, 0, 100, 140, 0};
        for (int i = 0; i < text.length; i++) {
            c.due("feed", x.feed(text[i]), i + 1);
        }
        c.due("make", x.make(0, 7, 1234), 3);
        c.due("pay", x.pay(0, 100, 1234, 0), PayChain.APPROVED);
        c.due("balance", x.balance(2), 900);
        x.pay(0, 100, 1234, 2);
        c.due("queued", x.queued(0), 2);
        c.due("send", x.send(0), 1);
        c.due("balance after the reversal", x.balance(2), 900);
        c.end();
    }
}
