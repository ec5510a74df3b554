/** Promise 7: setting. */
public final class SettingTest {
    public static void main(String[] args) {
        Check c = new Check();
        PayChain x = new PayChain();
        int[] largest = {999999, 65535, 999999, 999999, 65535, 65535, 65535};
        for (int which = 0; which < 7; which++) {
            c.due("least of " + which, x.setting(which, 0), 0);
            c.due("largest of " + which, x.setting(which, largest[which]), 0);
            c.due("above the largest of " + which, x.setting(which, largest[which] + 1), PayChain.REFUSED);
            c.due("below the least of " + which, x.setting(which, -1), PayChain.REFUSED);
            c.due("MIN of " + which, x.setting(which, Integer.MIN_VALUE), PayChain.REFUSED);
            c.due("MAX of " + which, x.setting(which, Integer.MAX_VALUE), PayChain.REFUSED);
        }
        int[] none = {-1, 7, Integer.MIN_VALUE, Integer.MAX_VALUE};
        for (int which : none) {
            c.due("setting(" + which + ", 0)", x.setting(which, 0), PayChain.REFUSED);
        }
        refusedChangesNothing(c);
        anyNumberIsYes(c);
        c.end();
    }

    private static void refusedChangesNothing(Check c) {
        PayChain x = new PayChain();
        CardText.needed().make(x, 0, 7, 1);
        x.setting(0, 10);
        x.setting(0, 1000000);
        x.setting(1, 101);
        x.setting(1, 65536);
        x.pay(0, 9, -1, 0);
        c.due("FLOOR and day stay", x.last(1), 512 + 1);
        x.pay(0, 10, -1, 0);
        c.due("FLOOR stays 10", x.last(1), 512 + 64 + 1);
    }

    private static void anyNumberIsYes(Check c) {
        PayChain x = new PayChain();
        CardText.needed().with(142, 0, 0, 1, 3).make(x, 0, 7, 1);
        x.setting(2, 999999);
        x.setting(3, 2);
        x.setting(6, 64);
        x.pay(0, 1, 1, 0);
        c.due("connected", x.last(2) * 10 + x.last(7), 12);
        c.due("with a pad", x.last(1), 512 + 64 + 1024);
    }
}
