import java.util.ArrayList;
import java.util.List;

/** Builds the text of a card, object by object, and feeds it. */
final class CardText {
    static final int ACCOUNT = 90;
    static final int LIST = 140;
    static final int RULES = 142;
    static final int END = 24356;
    static final int DEFAULT = 40717;
    static final int DENIAL = 40718;
    static final int ONLINE = 40719;
    static final int LOWER = 40724;
    static final int UPPER = 40739;

    private final List<Integer> bytes = new ArrayList<>();

    /** What each card needs: account 2, the end day 100, and no demands. */
    static CardText needed() {
        return new CardText().with(ACCOUNT, 2).with(END, 0, 100).with(LIST);
    }

    /** An object whose card 0 sends every payment to the host, to account 2. */
    static PayChain online(CardText text, int cardKey, int accountKey, int balance) {
        PayChain x = new PayChain();
        x.setting(2, 1);
        x.setting(6, 65535);
        x.account(2, balance, accountKey);
        text.make(x, 0, cardKey, 1);
        return x;
    }

    static PayChain online() {
        return online(needed(), 7, 7, 1000);
    }

    CardText with(int tag, int... value) {
        if (tag > 255) {
            bytes.add(tag / 256);
        }
        bytes.add(tag % 256);
        bytes.add(value.length);
        return raw(value);
    }

    CardText around(int tag, CardText inner) {
        int[] value = new int[inner.bytes.size()];
        for (int i = 0; i < value.length; i++) {
            value[i] = inner.bytes.get(i);
        }
        return with(tag, value);
    }

    CardText raw(int... row) {
        for (int b : row) {
            bytes.add(b);
        }
        return this;
    }

    CardText addAll(CardText other) {
        bytes.addAll(other.bytes);
        return this;
    }

    int length() {
        return bytes.size();
    }

    /** Feeds the text, in place of what was there. */
    PayChain to(PayChain x) {
        if (length() > 60) {
            throw new IllegalStateException("a text of " + length() + " bytes has no room");
        }
        x.wipe();
        for (int b : bytes) {
            x.feed(b);
        }
        return x;
    }

    int make(PayChain x, int card, int key, int pin) {
        return to(x).make(card, key, pin);
    }

    /** A new object whose card 0, with the key 7 and the PIN 1, is made of this text. */
    PayChain asCard() {
        PayChain x = new PayChain();
        make(x, 0, 7, 1);
        return x;
    }

    /** The answer of make for this text on a new object. */
    int made() {
        return make(new PayChain(), 0, 7, 1);
    }

    /** The answer of place after make for this text on a new object. */
    int placed() {
        PayChain x = new PayChain();
        make(x, 0, 7, 1);
        return x.place();
    }
}
