import java.util.Random;

/** No call may throw or run on, whatever the arguments, also beyond the 512th call. */
public final class LimitTest {
    private static final int[] ODD = {Integer.MIN_VALUE, Integer.MAX_VALUE, -2, -1, 0, 1, 2, 3, 4, 5, 6, 7, 8,
        16, 31, 32, 59, 60, 90, 127, 128, 129, 140, 142, 255, 256, 9999, 10000, 24356, 40717, 40724, 65535,
        65536, 999999, 1000000, 9999999, 10000000};

    public static void main(String[] args) {
        Check c = new Check();
        for (int seed = 0; seed < 300; seed++) {
            oddCalls(new Random(seed));
        }
        for (int seed = 0; seed < 300; seed++) {
            oddTexts(c, new Random(seed));
        }
        longRun();
        c.end();
    }

    private static int odd(Random r) {
        return ODD[r.nextInt(ODD.length)];
    }

    private static void oddCalls(Random r) {
        PayChain x = CardText.online();
        for (int i = 0; i < 600; i++) {
            switch (r.nextInt(12)) {
                case 0: x.feed(odd(r)); break;
                case 1: x.make(odd(r), odd(r), odd(r)); break;
                case 2: x.account(odd(r), odd(r), odd(r)); break;
                case 3: x.setting(odd(r), odd(r)); break;
                case 4: x.pay(r.nextInt(4), odd(r), odd(r), odd(r)); break;
                case 5: x.send(odd(r)); break;
                case 6: x.value(r.nextInt(4), odd(r), odd(r)); break;
                case 7: x.inside(r.nextInt(4), odd(r)); break;
                case 8: x.card(odd(r), odd(r)); break;
                case 9: x.balance(odd(r)); break;
                case 10: x.queued(odd(r) + x.count(odd(r)) + x.last(odd(r)) + x.data(odd(r))); break;
                default: x.pay(0, 1 + r.nextInt(100), -1, r.nextInt(4)); break;
            }
        }
    }

    private static void oddTexts(Check c, Random r) {
        for (int i = 0; i < 100; i++) {
            PayChain x = new PayChain();
            int length = r.nextInt(61);
            for (int k = 0; k < length; k++) {
                x.feed(r.nextBoolean() ? r.nextInt(8) : odd(r) & 255);
            }
            int made = x.make(0, 0, 0);
            int place = x.place();
            boolean bad = made == PayChain.BAD && place >= 0 && place < length;
            boolean other = made == PayChain.UNFIT ? place >= 90 : place == PayChain.REFUSED;
            c.due("place fits the answer " + made, bad || other ? 1 : 0, 1);
        }
    }

    /** What is answered beyond the 512th call is free, but it is answered. */
    private static void longRun() {
        PayChain x = CardText.online();
        for (int i = 0; i < 5000; i++) {
            x.pay(0, 1, -1, i % 4);
            x.send(0);
            x.send(2);
        }
    }
}
