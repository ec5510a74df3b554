/** Promises 7 and 8 at their edges, steps 1, 3, 4, 6 and 7: each method has the sentence that it tests. */
public final class RiskEdgeTest {
    private static final int NEW = 512;
    private static final int ABOVE_FLOOR = 64;

    public static void main(String[] args) {
        Check c = new Check();
        payArguments(c);
        settingsRange(c);
        refusedSettingStays(c);
        dayAboveEnd(c);
        amountAtFloor(c);
        runAtLowerAndUpper(c);
        largestUpper(c);
        lowerOrUpperAlone(c);
        everyFlagInEveryMask(c);
        wishByConnection(c);
        firstAnswer(c);
        upperWithoutConnection(c);
        c.end();
    }

    private static PayChain with(CardText text) {
        PayChain x = text.asCard();
        x.account(2, 1000, 7);
        x.setting(0, 999999);
        return x;
    }

    /** "a card that is there, amount 1 .. 999999, pin -1 .. 9999, fate 0 .. 3 (else REFUSED)" */
    private static void payArguments(Check c) {
        int[] cards = {Integer.MIN_VALUE, -1, 0, 1, 3, 4, Integer.MAX_VALUE};
        for (int card : cards) {
            payOnce(c, card, 1, 1, 0, card == 0);
        }
        int[] amounts = {Integer.MIN_VALUE, -1, 0, 1, 999998, 999999, 1000000, Integer.MAX_VALUE};
        for (int amount : amounts) {
            payOnce(c, 0, amount, 1, 0, amount >= 1 && amount <= 999999);
        }
        int[] pins = {Integer.MIN_VALUE, -3, -2, -1, 0, 9999, 10000, Integer.MAX_VALUE};
        for (int pin : pins) {
            payOnce(c, 0, 1, pin, 0, pin >= -1 && pin <= 9999);
        }
        int[] fates = {Integer.MIN_VALUE, -1, 0, 1, 2, 3, 4, Integer.MAX_VALUE};
        for (int fate : fates) {
            payOnce(c, 0, 1, 1, fate, fate >= 0 && fate <= 3);
        }
    }

    private static void payOnce(Check c, int card, int amount, int pin, int fate, boolean isTaken) {
        PayChain x = with(CardText.needed());
        String what = "pay(" + card + ", " + amount + ", " + pin + ", " + fate + ")";
        if (isTaken) {
            c.due(what, x.pay(card, amount, pin, fate), PayChain.APPROVED);
            c.due(what + ": its number", x.last(8), 1);
        } else {
            c.unchanged(what, x, () -> x.pay(card, amount, pin, fate), PayChain.REFUSED);
            x.pay(0, 1, -1, 0);
            c.due("a refused one has no number", x.last(8), 1);
            c.due("nor does COUNTER grow", x.card(0, 1), 1);
        }
    }

    /** "Setting 0 .. 6 of the terminal becomes 0 .. 999999; the day and the masks 0 .. 65535." */
    private static void settingsRange(Check c) {
        int[] values = {Integer.MIN_VALUE, -1, 0, 1, 65534, 65535, 65536, 999998, 999999, 1000000, Integer.MAX_VALUE};
        for (int which = -2; which <= 9; which++) {
            boolean isPair = which == 1 || which >= 4;
            for (int value : values) {
                boolean isTaken = which >= 0 && which <= 6 && value >= 0 && value <= (isPair ? 65535 : 999999);
                c.due("setting(" + which + ", " + value + ")", new PayChain().setting(which, value),
                        isTaken ? 0 : PayChain.REFUSED);
            }
        }
        c.due("setting(MIN, 0)", new PayChain().setting(Integer.MIN_VALUE, 0), PayChain.REFUSED);
        c.due("setting(MAX, 0)", new PayChain().setting(Integer.MAX_VALUE, 0), PayChain.REFUSED);
    }

    /** "0, or REFUSED": each setting keeps what it was. */
    private static void refusedSettingStays(Check c) {
        int[] refused = {-1, 1000000};
        for (int value : refused) {
            PayChain x = with(CardText.needed().with(142, 0, 0, 31, 3));
            x.setting(0, 10);
            x.setting(1, 101);
            x.setting(2, 1);
            x.setting(3, 1);
            x.setting(6, 1);
            for (int which = 0; which < 7; which++) {
                c.due("setting(" + which + ", " + value + ")", x.setting(which, value), PayChain.REFUSED);
            }
            c.due("connected, and asked for the day", x.pay(0, 9, -1, 0) * 10 + x.last(7), 11);
            c.due("FLOOR, day and pad", x.last(1), NEW + 1);
            x.setting(5, 1);
            x.setting(5, value);
            x.setting(5, 65536);
            c.due("DENIAL", x.pay(0, 9, -1, 0) * 10 + x.last(2), 20);
            x.setting(5, 0);
            x.setting(6, 0);
            x.setting(2, 0);
            x.setting(4, 1);
            x.setting(4, value);
            x.setting(4, 65536);
            c.due("DEFAULT", x.pay(0, 9, -1, 0) * 10 + x.last(2), 20);
        }
    }

    /** "Flag 1 is set if the day is above END", END a NUMBER of 2 bytes */
    private static void dayAboveEnd(Check c) {
        int[] ends = {0, 1, 127, 128, 255, 256, 257, 32767, 32768, 65534, 65535};
        for (int end : ends) {
            int[] days = {0, end - 1, end, end + 1, 65535};
            PayChain x = with(new CardText().with(90, 2).with(24356, end / 256, end % 256).with(140));
            for (int day : days) {
                if (day < 0 || day > 65535) {
                    continue;
                }
                x.setting(1, day);
                x.pay(0, 1, -1, 0);
                c.due("day " + day + ", END " + end, x.last(1), NEW + (day > end ? 1 : 0));
            }
        }
    }

    /** "Flag 64 if the amount is not below FLOOR." */
    private static void amountAtFloor(Check c) {
        int[] floors = {0, 1, 2, 500, 65536, 999998, 999999};
        PayChain x = with(CardText.needed());
        for (int floor : floors) {
            x.setting(0, floor);
            for (int amount = Math.max(1, floor - 1); amount <= Math.min(999999, floor + 1); amount++) {
                x.pay(0, amount, -1, 0);
                c.due("FLOOR " + floor + ", amount " + amount, x.last(1), NEW + (amount >= floor ? ABOVE_FLOOR : 0));
            }
        }
    }

    /** "flag 128 if RUN is not below LOWER, 256 if RUN is not below UPPER" */
    private static void runAtLowerAndUpper(Check c) {
        for (int lower = 0; lower <= 3; lower++) {
            for (int upper = 0; upper <= 3; upper++) {
                PayChain x = with(CardText.needed().with(40724, lower).with(40739, upper));
                for (int pays = 0; pays < 5; pays++) {
                    int run = x.card(0, 2);
                    c.due("RUN up to UPPER", run, Math.min(pays, upper));
                    x.pay(0, 1, -1, 0);
                    c.due("LOWER " + lower + ", UPPER " + upper + ", RUN " + run, x.last(1),
                            NEW + (run >= lower ? 128 : 0) + (run >= upper ? 256 : 0));
                    c.due("outcome", x.last(0), run >= upper ? PayChain.DECLINED : PayChain.APPROVED);
                }
            }
        }
    }

    /** "40724 and 40739 (1 byte each)": a byte is never below 0. */
    private static void largestUpper(Check c) {
        PayChain x = with(CardText.needed().with(40724, 128).with(40739, 255));
        for (int run = 0; run < 255; run++) {
            x.pay(0, 1, -1, 0);
            if (run == 127 || run == 128 || run == 254) {
                c.due("flags with RUN " + run, x.last(1), NEW + (run >= 128 ? 128 : 0));
                c.due("first answer with RUN " + run, x.last(3), 2);
            }
        }
        c.due("RUN", x.card(0, 2), 255);
        c.due("RUN 255", x.pay(0, 1, -1, 0), PayChain.DECLINED);
        c.due("flags with RUN 255", x.last(1), NEW + 128 + 256);
        c.due("first answer with RUN 255", x.last(3), 1);
        c.due("RUN stays", x.card(0, 2), 255);
        PayChain none = with(CardText.needed());
        for (int i = 0; i < 300; i++) {
            none.pay(0, 1, -1, 0);
        }
        c.due("without UPPER RUN has no bound", none.card(0, 2), 300);
        c.due("and each one is approved", none.count(3), 300);
    }

    /** "If the card has LOWER and UPPER" */
    private static void lowerOrUpperAlone(Check c) {
        PayChain lower = with(CardText.needed().with(40724, 0));
        c.due("LOWER alone", lower.pay(0, 1, -1, 0), PayChain.APPROVED);
        c.due("its flags", lower.last(1), NEW);
        c.due("its first answer", lower.last(3), 2);
        PayChain upper = with(CardText.needed().with(40739, 0));
        c.due("UPPER alone", upper.pay(0, 1, -1, 0), PayChain.DECLINED);
        c.due("its flags", upper.last(1), NEW);
        c.due("its first answer", upper.last(3), 1);
    }

    /** A card whose payment of 5, with the PIN 2 typed, has this flag and 512 alone. */
    private static CardText cardOf(int flag) {
        CardText text = CardText.needed();
        switch (flag) {
            case 4: return text.with(142, 0, 0, 0, 0);
            case 8: return text.with(142, 0, 0, 66, 0, 31, 0);
            case 16: return text.with(142, 0, 0, 65, 0, 31, 0);
            case 32: return text.with(142, 0, 0, 65, 0, 65, 0, 65, 0, 65, 0, 31, 0);
            case 128: return text.with(40724, 0).with(40739, 1);
            case 256: return text.with(40724, 1).with(40739, 0);
            default: return text;
        }
    }

    private static PayChain terminalOf(int flag, int connected) {
        PayChain x = new PayChain();
        x.setting(0, flag == 64 ? 5 : 6);
        x.setting(1, flag == 1 ? 101 : 100);
        x.setting(2, connected);
        x.setting(3, flag == 32 ? 1 : 0);
        return x;
    }

    /** "if a flag is in the card's or the terminal's DENIAL", and so for ONLINE and DEFAULT: each bit of the masks */
    private static void everyFlagInEveryMask(Check c) {
        int[] flags = {1, 4, 8, 16, 32, 64, 128, 256, 512};
        for (int flag : flags) {
            for (int mask = 1; mask < 65536; mask *= 2) {
                for (int kind = 0; kind < 3; kind++) {
                    maskOfTheTerminal(c, flag, kind, mask);
                    maskOfTheCard(c, flag, kind, mask);
                }
            }
        }
    }

    private static void maskOfTheTerminal(Check c, int flag, int kind, int mask) {
        for (int connected = 0; connected <= 1; connected++) {
            PayChain x = terminalOf(flag, connected);
            x.setting(4 + kind, mask);
            cardOf(flag).make(x, 0, 7, 1);
            wishIs(c, "setting " + (4 + kind) + " is " + mask, x, flag | NEW, mask, wishOf(kind, connected));
        }
    }

    private static void maskOfTheCard(Check c, int flag, int kind, int mask) {
        for (int connected = 0; connected <= 1; connected++) {
            PayChain x = terminalOf(flag, connected);
            cardOf(flag).with(40717 + kind, mask / 256, mask % 256).make(x, 0, 7, 1);
            wishIs(c, 40717 + kind + " is " + mask, x, flag | NEW, mask, wishOf(kind, connected));
        }
    }

    /** The WISH if a flag is in DEFAULT (0), DENIAL (1) or ONLINE (2) alone. */
    private static int wishOf(int kind, int connected) {
        int[][] wishes = {{0, 2}, {0, 0}, {2, 1}};
        return wishes[kind][connected];
    }

    private static void wishIs(Check c, String what, PayChain x, int flags, int mask, int wish) {
        // The request is lost, so that no reply adds flag 1024.
        x.pay(0, 5, 2, 1);
        c.due(what + ": flags", x.last(1), flags);
        c.due(what + ": WISH", x.last(2), (flags & mask) == 0 ? 2 : wish);
    }

    /** "Else, if connected: .. Else ..": DENIAL counts first, ONLINE with a connection, DEFAULT without one. */
    private static void wishByConnection(Check c) {
        int[] connections = {0, 1, 2, 65536, 999999};
        for (int connected : connections) {
            for (int masks = 0; masks < 8; masks++) {
                PayChain x = with(CardText.needed());
                x.setting(2, connected);
                for (int i = 0; i < 3; i++) {
                    x.setting(4 + i, (masks & 1 << i) != 0 ? NEW : 65535 - NEW);
                }
                x.pay(0, 1, -1, 0);
                boolean hasDefault = (masks & 1) != 0;
                boolean hasDenial = (masks & 2) != 0;
                boolean hasOnline = (masks & 4) != 0;
                int open = connected != 0 ? (hasOnline ? 1 : 2) : (hasDefault ? 0 : 2);
                c.due("setting 2 is " + connected + ", masks " + masks, x.last(2), hasDenial ? 0 : open);
            }
        }
    }

    /** "0 if the WISH is 0 or TRIES is 0; else 1 if the WISH is 1, or the card has UPPER and RUN is not below it" */
    private static void firstAnswer(Check c) {
        for (int upper = 0; upper <= 2; upper++) {
            PayChain no = with(CardText.needed().with(40739, upper));
            no.setting(5, NEW);
            c.due("WISH 0, UPPER " + upper, no.pay(0, 1, -1, 0) * 10 + no.last(3), 20);
            PayChain ask = with(CardText.needed().with(40739, upper));
            ask.setting(2, 1);
            ask.setting(6, NEW);
            c.due("WISH 1, UPPER " + upper, ask.pay(0, 1, -1, 0) * 10 + ask.last(3), 11);
            PayChain yes = with(CardText.needed().with(40739, upper));
            yes.setting(2, 1);
            for (int run = 0; run < upper; run++) {
                c.due("WISH 2 below UPPER", yes.pay(0, 1, -1, 0) * 10 + yes.last(3), 12);
            }
            c.due("WISH 2 at UPPER", yes.pay(0, 1, -1, 0) * 10 + yes.last(3), 11);
            c.due("the host brings RUN to 0", yes.card(0, 2), 0);
        }
        PayChain spent = with(CardText.needed().with(142, 0, 0, 65, 0, 65, 0, 65, 0, 31, 0).with(40739, 0));
        spent.setting(2, 1);
        spent.setting(3, 1);
        spent.setting(6, NEW);
        c.due("TRIES 0, WISH 1, at UPPER", spent.pay(0, 1, 2, 0) * 10 + spent.last(3), 20);
        c.due("no host", spent.last(7), 0);
    }

    /** "the HOST works" only "if connected": at UPPER without a connection nobody is asked. */
    private static void upperWithoutConnection(Check c) {
        for (int fate = 0; fate <= 3; fate++) {
            PayChain x = with(CardText.needed().with(40739, 0));
            c.due("fate " + fate, x.pay(0, 1, -1, fate), fate == 3 ? PayChain.REMOVED : PayChain.DECLINED);
            c.due("second answer", x.last(5), fate == 3 ? -1 : 0);
            c.due("its cryptogram", x.last(6), fate == 3 ? 0 : Check.mac(7, 0, 0, 1));
            c.due("CODE", x.last(7), 0);
            c.due("balance", x.balance(2), 1000);
            c.due("reversals", x.count(2), 0);
        }
    }
}
