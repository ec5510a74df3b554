/** Step 2 of a payment, HOLDER, at its edges (promise 8): each method has the sentence that it tests. */
public final class HolderEdgeTest {
    private static final int FAILED = 4;
    private static final int UNKNOWN = 8;
    private static final int NOT_TYPED = 16;
    private static final int NO_TRIES = 32;
    private static final int MET = 31;

    public static void main(String[] args) {
        Check c = new Check();
        noRules(c);
        amountsAtLimit(c);
        everyCase(c);
        caseOfThePad(c);
        everyCode(c);
        passedOverRules(c);
        fiveRules(c);
        notMetWithoutTheBit(c);
        noPadOrNothingTyped(c);
        triesDownToNone(c);
        rightPinAtTheLastTry(c);
        triesWithinOnePayment(c);
        largestPin(c);
        c.end();
    }

    /** A card with the PIN 1 and the rules behind LIMIT, at a terminal with or without a pad. */
    private static PayChain with(int pad, int limit, int... rules) {
        int[] value = new int[rules.length + 2];
        value[0] = limit / 256;
        value[1] = limit % 256;
        System.arraycopy(rules, 0, value, 2, rules.length);
        PayChain x = CardText.needed().with(142, value).asCard();
        x.setting(0, 999999);
        x.setting(3, pad);
        return x;
    }

    /** The flags of a payment but 512; the amount stays below FLOOR. */
    private static int flags(PayChain x, int amount, int pin) {
        x.pay(0, amount, pin, 0);
        return x.last(1) - 512;
    }

    /** "HOLDER, if the card has 142" and "After the last rule, if HOLDER has not ended, flag 4 is set." */
    private static void noRules(Check c) {
        PayChain none = CardText.needed().asCard();
        none.setting(0, 999999);
        c.due("no 142", flags(none, 1, 1), 0);
        c.due("a LIMIT and no rule", flags(with(1, 100), 1, 1), FAILED);
    }

    /** "1 and the amount is below LIMIT; or 2 and it is above LIMIT", LIMIT a NUMBER of 2 bytes */
    private static void amountsAtLimit(Check c) {
        int[] limits = {0, 1, 2, 127, 128, 255, 256, 32767, 32768, 65534, 65535};
        for (int limit : limits) {
            for (int amount = Math.max(1, limit - 2); amount <= limit + 2; amount++) {
                String what = "LIMIT " + limit + ", amount " + amount;
                c.due(what + ", case 1", flags(with(0, limit, MET, 1), amount, -1), amount < limit ? 0 : FAILED);
                c.due(what + ", case 2", flags(with(0, limit, MET, 2), amount, -1), amount > limit ? 0 : FAILED);
            }
            c.due("LIMIT " + limit + ", a large amount, case 1", flags(with(0, limit, MET, 1), 900000, -1), FAILED);
            c.due("LIMIT " + limit + ", a large amount, case 2", flags(with(0, limit, MET, 2), 900000, -1), 0);
        }
    }

    /** "others are passed over" */
    private static void everyCase(Check c) {
        for (int which = 0; which <= 255; which++) {
            boolean counts = which == 0 || which == 1 || which == 3;
            c.due("case " + which + " below LIMIT, with a pad", flags(with(1, 100, MET, which), 99, -1),
                    counts ? 0 : FAILED);
        }
    }

    /** "3 and there is a PIN pad"; "not 0 is yes" */
    private static void caseOfThePad(Check c) {
        int[] pads = {0, 1, 2, 256, 65536, 999999};
        for (int pad : pads) {
            c.due("case 3, setting 3 is " + pad, flags(with(pad, 100, MET, 3), 1, -1), pad == 0 ? FAILED : 0);
            c.due("the PIN, setting 3 is " + pad, flags(with(pad, 100, 1, 0), 1, 1),
                    pad == 0 ? FAILED + NOT_TYPED : 0);
        }
    }

    /** "by its code without the bit 64 .. Other code: flag 8, not met." "(The bit 128 belongs to the code.)" */
    private static void everyCode(Check c) {
        for (int code = 0; code <= 255; code++) {
            int plain = (code & 64) == 0 ? code : code - 64;
            boolean isKnown = plain == 0 || plain == 1 || plain == MET;
            boolean isMet = plain == 1 || plain == MET;
            boolean ends = isMet || (code & 64) == 0;
            int alone = (isKnown ? 0 : UNKNOWN) + (isMet ? 0 : FAILED);
            int before31 = (isKnown ? 0 : UNKNOWN) + (isMet || !ends ? 0 : FAILED);
            c.due("code " + code + " alone", flags(with(1, 100, code, 0), 1, 1), alone);
            c.due("code " + code + " before 31", flags(with(1, 100, code, 0, MET, 0), 1, 1), before31);
        }
    }

    /** A rule that does not count sets no flag, costs no try and does not end HOLDER. */
    private static void passedOverRules(Check c) {
        int[] codes = {0, 1, 2, MET, 64, 65, 66, 95, 129, 255};
        for (int code : codes) {
            PayChain x = with(1, 100, code, 2, MET, 0);
            c.due("code " + code + " passed over, then 31", flags(x, 100, 2), 0);
            c.due("TRIES", x.card(0, 0), 3);
            PayChain y = with(1, 100, code, 1);
            c.due("code " + code + " passed over, the last", flags(y, 100, 2), FAILED);
            c.due("TRIES", y.card(0, 0), 3);
        }
    }

    /** "up to five rules": each of them can be the one that is met. */
    private static void fiveRules(Check c) {
        for (int rules = 1; rules <= 5; rules++) {
            int[] row = new int[2 * rules];
            for (int i = 0; i < rules; i++) {
                row[2 * i] = 64;
            }
            c.due(rules + " rules, none met", flags(with(1, 100, row), 1, 1), FAILED);
            row[2 * rules - 2] = MET;
            c.due(rules + " rules, the last one met", flags(with(1, 100, row), 1, 1), 0);
            row[2 * rules - 2] = 0;
            c.due(rules + " rules, the last one not met, without the bit", flags(with(1, 100, row), 1, 1), FAILED);
        }
    }

    /** "without it flag 4 is set and HOLDER ends" */
    private static void notMetWithoutTheBit(Check c) {
        c.due("0 and then 31", flags(with(1, 100, 0, 0, MET, 0), 1, 1), FAILED);
        c.due("0 and then another code", flags(with(1, 100, 0, 0, 2, 0), 1, 1), FAILED);
        PayChain x = with(1, 100, 1, 0, 1, 0);
        c.due("a wrong PIN ends it", flags(x, 1, 2), FAILED);
        c.due("so the second rule costs no try", x.card(0, 0), 2);
        PayChain y = with(1, 100, 65, 0, 1, 0);
        c.due("with the bit the next one follows", flags(y, 1, 2), FAILED);
        c.due("and costs a try too", y.card(0, 0), 1);
    }

    /** "no pad or no PIN typed: flag 16" comes before TRIES and costs none. */
    private static void noPadOrNothingTyped(Check c) {
        int[][] rows = {{0, 1}, {0, 2}, {0, -1}, {1, -1}};
        for (int[] r : rows) {
            PayChain x = with(r[0], 100, 1, 0);
            c.due("pad " + r[0] + ", PIN " + r[1], flags(x, 1, r[1]), FAILED + NOT_TYPED);
            c.due("TRIES stay", x.card(0, 0), 3);
            c.due("and the card says yes", x.last(3), 2);
            PayChain spent = with(1, 100, 1, 0);
            for (int i = 0; i < 3; i++) {
                spent.pay(0, 1, 2, 0);
            }
            spent.setting(3, r[0]);
            c.due("with TRIES 0: pad " + r[0] + ", PIN " + r[1], flags(spent, 1, r[1]), FAILED + NOT_TYPED);
        }
    }

    /** "else TRIES is 0: flag 32; .. else TRIES is one less": 3, 2, 1, 0 and no further. */
    private static void triesDownToNone(Check c) {
        PayChain x = with(1, 100, 1, 0);
        int[] tries = {2, 1, 0, 0, 0};
        int[] flags = {FAILED, FAILED, FAILED, FAILED + NO_TRIES, FAILED + NO_TRIES};
        int[] answers = {2, 2, 0, 0, 0};
        for (int i = 0; i < tries.length; i++) {
            c.due("wrong PIN " + (i + 1), flags(x, 1, 0), flags[i]);
            c.due("TRIES", x.card(0, 0), tries[i]);
            c.due("first answer", x.last(3), answers[i]);
            c.due("WISH", x.last(2), 2);
        }
        c.due("the right PIN comes too late", flags(x, 1, 1), FAILED + NO_TRIES);
        c.due("TRIES", x.card(0, 0), 0);
        c.due("declined", x.last(0), PayChain.DECLINED);
    }

    /** "the PIN is the card's: TRIES is 3, met" */
    private static void rightPinAtTheLastTry(Check c) {
        for (int wrong = 0; wrong <= 2; wrong++) {
            PayChain x = with(1, 100, 1, 0);
            for (int i = 0; i < wrong; i++) {
                x.pay(0, 1, 2, 0);
            }
            c.due("TRIES", x.card(0, 0), 3 - wrong);
            c.due("right after " + wrong + " wrong ones", flags(x, 1, 1), 0);
            c.due("TRIES", x.card(0, 0), 3);
        }
    }

    /** The rules of one payment take one try after the other. */
    private static void triesWithinOnePayment(Check c) {
        int[] tries = {2, 1, 0, 0, 0};
        for (int rules = 1; rules <= 5; rules++) {
            int[] row = new int[2 * rules];
            for (int i = 0; i < rules; i++) {
                row[2 * i] = 65;
            }
            PayChain x = with(1, 100, row);
            c.due(rules + " rules", flags(x, 1, 2), FAILED + (rules > 3 ? NO_TRIES : 0));
            c.due("TRIES", x.card(0, 0), tries[rules - 1]);
            c.due("first answer", x.last(3), rules >= 3 ? 0 : 2);
        }
        PayChain met = with(1, 100, 65, 0, 65, 0, 65, 0, 95, 0);
        c.due("met by 31 with TRIES 0", flags(met, 1, 2), 0);
        c.due("TRIES", met.card(0, 0), 0);
        c.due("the card declines all the same", met.last(0), PayChain.DECLINED);
    }

    /** "with a PIN typed or none (-1)", "pin -1 .. 9999" */
    private static void largestPin(Check c) {
        PayChain x = new PayChain();
        x.setting(0, 999999);
        x.setting(3, 1);
        CardText.needed().with(142, 0, 0, 1, 0).make(x, 0, 7, 9999);
        c.due("9999 typed", flags(x, 1, 9999), 0);
        c.due("9998 typed", flags(x, 1, 9998), FAILED);
        c.due("0 typed", flags(x, 1, 0), FAILED);
        c.due("none typed", flags(x, 1, -1), FAILED + NOT_TYPED);
        c.due("10000 typed", x.pay(0, 1, 10000, 0), PayChain.REFUSED);
        c.due("TRIES", x.card(0, 0), 1);
    }
}
