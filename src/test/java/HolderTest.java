/** Promise 8: step 2 of a payment, HOLDER. */
public final class HolderTest {
    private static final int FAILED = 4;
    private static final int UNKNOWN = 8;
    private static final int NOT_TYPED = 16;
    private static final int NO_TRIES = 32;

    public static void main(String[] args) {
        Check c = new Check();
        codes(c);
        cases(c);
        pinAndTries(c);
        rulesInOrder(c);
        c.end();
    }

    /** A card with the PIN 1 and the rules behind LIMIT 100, at a terminal with or without a pad. */
    private static PayChain with(int pad, int... rules) {
        int[] value = new int[rules.length + 2];
        value[1] = 100;
        System.arraycopy(rules, 0, value, 2, rules.length);
        PayChain x = new PayChain();
        x.setting(0, 999999);
        x.setting(3, pad);
        CardText.needed().with(142, value).make(x, 0, 7, 1);
        return x;
    }

    private static int flags(PayChain x, int amount, int pin) {
        x.pay(0, amount, pin, 0);
        return x.last(1) - 512;
    }

    private static void codes(Check c) {
        PayChain none = new PayChain();
        none.setting(0, 999999);
        CardText.needed().make(none, 0, 7, 1);
        c.due("no 142", flags(none, 1, -1), 0);
        c.due("no rules", flags(with(1), 1, 1), FAILED);
        c.due("31", flags(with(1, 31, 0), 1, -1), 0);
        c.due("95", flags(with(1, 95, 0), 1, -1), 0);
        c.due("0", flags(with(1, 0, 0), 1, 1), FAILED);
        c.due("64", flags(with(1, 64, 0), 1, 1), FAILED);
        int[] others = {2, 30, 32, 63, 128, 129, 159, 191};
        for (int code : others) {
            c.due("other code " + code, flags(with(1, code, 0, 31, 0), 1, 1), UNKNOWN + FAILED);
            c.due("other code " + (code + 64), flags(with(1, code + 64, 0, 31, 0), 1, 1), UNKNOWN);
        }
        c.due("1, right", flags(with(1, 1, 0), 1, 1), 0);
        c.due("65, right", flags(with(1, 65, 0), 1, 1), 0);
        c.due("1, wrong", flags(with(1, 1, 0), 1, 2), FAILED);
        c.due("1, none typed", flags(with(1, 1, 0), 1, -1), FAILED + NOT_TYPED);
        c.due("1, no pad", flags(with(0, 1, 0), 1, 1), FAILED + NOT_TYPED);
    }

    private static void cases(Check c) {
        int[] amounts = {99, 100, 101};
        int[][] counts = {{1, 1, 1}, {1, 0, 0}, {0, 0, 1}, {1, 1, 1}, {0, 0, 0}, {0, 0, 0}};
        int[] which = {0, 1, 2, 3, 4, 255};
        for (int k = 0; k < which.length; k++) {
            for (int a = 0; a < amounts.length; a++) {
                int due = counts[k][a] == 1 ? 0 : FAILED;
                c.due("case " + which[k] + " of the amount " + amounts[a],
                        flags(with(1, 31, which[k]), amounts[a], -1), due);
            }
        }
        c.due("case 3 without a pad", flags(with(0, 31, 3), 1, -1), FAILED);
        c.due("a rule passed over does not end it", flags(with(1, 0, 2, 31, 0), 1, -1), 0);
        c.due("nor sets a flag", flags(with(1, 2, 2, 1, 4, 31, 0), 1, -1), 0);
        PayChain x = new PayChain();
        x.setting(0, 999999);
        CardText.needed().with(142, 1, 2, 31, 1).make(x, 0, 7, 1);
        c.due("below LIMIT 258", flags(x, 257, -1), 0);
        c.due("at LIMIT 258", flags(x, 258, -1), FAILED);
    }

    private static void pinAndTries(Check c) {
        PayChain x = with(1, 1, 0);
        c.due("wrong", flags(x, 1, 2), FAILED);
        c.due("TRIES", x.card(0, 0), 2);
        c.due("wrong again", flags(x, 1, 9999), FAILED);
        c.due("TRIES", x.card(0, 0), 1);
        c.due("none typed", flags(x, 1, -1), FAILED + NOT_TYPED);
        c.due("TRIES stay", x.card(0, 0), 1);
        c.due("right", flags(x, 1, 1), 0);
        c.due("TRIES are 3", x.card(0, 0), 3);
        for (int tries = 2; tries >= 0; tries--) {
            x.pay(0, 1, 0, 0);
            c.due("TRIES", x.card(0, 0), tries);
        }
        c.due("the last try declines", x.last(0), PayChain.DECLINED);
        c.due("WISH of it", x.last(2), 2);
        c.due("first answer with TRIES 0", x.last(3), 0);
        c.due("right, but too late", flags(x, 1, 1), FAILED + NO_TRIES);
        c.due("TRIES stay 0", x.card(0, 0), 0);
        c.due("declined", x.last(0), PayChain.DECLINED);
        x.setting(3, 0);
        c.due("no pad comes before TRIES", flags(x, 1, 1), FAILED + NOT_TYPED);
        x.setting(2, 1);
        x.setting(6, 65535);
        x.pay(0, 1, 1, 0);
        c.due("WISH 1 with TRIES 0", x.last(2) * 10 + x.last(3), 10);
        PayChain zero = new PayChain();
        zero.setting(0, 999999);
        zero.setting(3, 1);
        CardText.needed().with(142, 0, 0, 1, 0).make(zero, 0, 7, 0);
        c.due("the PIN 0 is a PIN", flags(zero, 1, 0), 0);
        c.due("none typed is not", flags(zero, 1, -1), FAILED + NOT_TYPED);
    }

    private static void rulesInOrder(Check c) {
        PayChain x = with(1, 65, 0, 65, 0, 1, 0);
        c.due("three rules, three tries", flags(x, 1, 2), FAILED);
        c.due("TRIES", x.card(0, 0), 0);
        PayChain met = with(1, 65, 0, 65, 0);
        flags(met, 1, 1);
        c.due("met ends it", met.card(0, 0), 3);
        c.due("the fifth rule", flags(with(1, 64, 0, 64, 0, 64, 0, 64, 0, 31, 0), 1, -1), 0);
        c.due("five not met", flags(with(1, 64, 0, 64, 0, 64, 0, 64, 0, 64, 0), 1, -1), FAILED);
        c.due("without the bit 64 it ends", flags(with(1, 0, 0, 31, 0), 1, -1), FAILED);
        c.due("flags of all rules", flags(with(1, 66, 0, 67, 0, 65, 0, 31, 0), 1, -1), UNKNOWN + NOT_TYPED);
        c.due("none typed twice", flags(with(1, 65, 0, 65, 0, 31, 0), 1, -1), NOT_TYPED);
        c.due("other codes twice", flags(with(1, 66, 0, 67, 0, 31, 0), 1, -1), UNKNOWN);
        PayChain twice = with(1, 65, 0, 65, 0, 31, 0);
        flags(twice, 1, 2);
        flags(twice, 1, 2);
        c.due("TRIES 0 found twice", flags(twice, 1, 2), NO_TRIES);
        PayChain blocked = with(1, 65, 0, 65, 0, 65, 0, 65, 0, 31, 0);
        c.due("the fourth try finds TRIES 0", flags(blocked, 1, 2), NO_TRIES);
        c.due("and the card declines", blocked.last(0), PayChain.DECLINED);
    }
}
