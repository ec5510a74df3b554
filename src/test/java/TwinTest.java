import java.util.Random;
import java.util.function.ToLongFunction;

/**
 * "A call that answers REFUSED, FULL, or a code below changes nothing, but for place as said": two objects take the
 * same calls, one of them calls that fail in between, and both go on answering alike.
 */
public final class TwinTest {
    /** What the last look at all that can be asked needs of the 512 calls of an object. */
    private static final int CALLS_OF_STATE = 110;

    private final Check check;
    private final Random random;
    private final PayChain plain = new PayChain();
    private final PayChain troubled = new PayChain();
    private int calls;

    private TwinTest(Check check, int seed) {
        this.check = check;
        this.random = new Random(seed);
    }

    public static void main(String[] args) {
        Check c = new Check();
        for (int seed = 0; seed < 400; seed++) {
            new TwinTest(c, seed).run();
        }
        c.end();
    }

    private void run() {
        both("connect", x -> x.setting(2, 1));
        both("pad", x -> x.setting(3, 1));
        both("account", x -> x.account(2, 1000, 7));
        card(0);
        // A step takes a card's text of at most 40 bytes, or one call, and the failing ones.
        while (calls < 512 - CALLS_OF_STATE - 60) {
            step();
            fail();
        }
        check.same("all that can be asked", Check.state(troubled), Check.state(plain));
    }

    private void both(String what, ToLongFunction<PayChain> call) {
        calls++;
        check.due(what + ", beside its twin", call.applyAsLong(troubled), call.applyAsLong(plain));
    }

    private void fails(String what, ToLongFunction<PayChain> call) {
        calls++;
        check.due(what + " fails", call.applyAsLong(troubled) < 0 ? 1 : 0, 1);
    }

    private void feedBoth(int... bytes) {
        for (int b : bytes) {
            both("feed", x -> x.feed(b));
        }
    }

    private void card(int card) {
        both("wipe", x -> x.wipe());
        feedBoth(90, 1, 2, 95, 36, 2, 0, 100, 140, 5, 159, 2, 2, 149, 2);
        if (random.nextBoolean()) {
            feedBoth(142, 6, 0, 50, 65, 3, 31, 1 + random.nextInt(2));
        }
        if (random.nextBoolean()) {
            feedBoth(159, 20, 1, 1, 159, 35, 1, 1 + random.nextInt(3));
        }
        both("make", x -> x.make(card, 7, 1));
    }

    private void step() {
        int amount = 1 + random.nextInt(100);
        int pin = random.nextInt(4) - 1;
        int fate = random.nextInt(4);
        int which = random.nextInt(7);
        int card = random.nextInt(2);
        switch (random.nextInt(12)) {
            case 0: both("setting", x -> x.setting(which, which == 2 || which == 3 ? amount % 3 : amount)); break;
            case 1: both("setting", x -> x.setting(6, 65535)); break;
            case 2: both("account", x -> x.account(2, 10 * amount, amount % 5 == 0 ? 8 : 7)); break;
            case 3: both("send", x -> x.send(fate % 3)); break;
            case 4: both("send", x -> x.send(0)); break;
            case 5: both("connect", x -> x.setting(2, 1)); break;
            case 6: card(card); break;
            default: both("pay", x -> x.pay(card, amount, pin, fate)); break;
        }
        both("flags", x -> x.last(1));
        both("cryptogram", x -> x.last(4));
    }

    private void fail() {
        int card = random.nextInt(4);
        switch (random.nextInt(13)) {
            case 0: fails("feed", x -> x.feed(random.nextBoolean() ? -1 : 256)); break;
            case 1: fails("a card that is none", x -> x.make(4, 9, 9)); break;
            case 2: fails("a PIN that is none", x -> x.make(card, 9, 10000)); break;
            case 3: fails("no account", x -> x.account(8, 5, 9)); break;
            case 4: fails("no balance", x -> x.account(2, -1, 9)); break;
            case 5: fails("no balance", x -> x.account(2, 10000000, 9)); break;
            case 6: fails("no setting", x -> x.setting(card, 1000000)); break;
            case 7: fails("no mask", x -> x.setting(4 + card % 3, 65536)); break;
            case 8: fails("no amount", x -> x.pay(card, 0, 2, 2)); break;
            case 9: fails("no PIN typed", x -> x.pay(card, 5, 10000, 2)); break;
            case 10: fails("no fate", x -> x.pay(card, 5, 2, 4)); break;
            case 11: fails("no fate", x -> x.send(3)); break;
            default: failingMake(card); break;
        }
        if (troubled.count(2) == 6) {
            fails("a full queue", x -> x.pay(card, 5, 2, 2));
        }
        calls++;
    }

    /** The text is empty between the steps, and it is left empty. */
    private void failingMake(int card) {
        fails("an unfit text", x -> x.make(card, 9, 9));
        troubled.feed(random.nextBoolean() ? 90 : 31);
        fails("a bad text", x -> x.make(card, 9, 9));
        troubled.wipe();
        calls += 2;
    }
}
