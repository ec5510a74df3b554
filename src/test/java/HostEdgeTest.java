/** Promise 6, and the steps 6, 8 and 9 of a payment, at their edges: each method has the sentence that it tests. */
public final class HostEdgeTest {
    public static void main(String[] args) {
        Check c = new Check();
        accountArguments(c);
        refusedAccountStays(c);
        balanceAtTheAmount(c);
        largestBalance(c);
        counterAtLast(c);
        lastIsKept(c);
        lastIsNotSet(c);
        orderOfCodes(c);
        everyBitOfTheKey(c);
        counterOverOneByte(c);
        runAndSeenByCode(c);
        hostDidNotWork(c);
        noReplyAtUpper(c);
        noReplyAndDefault(c);
        noSecondAnswer(c);
        c.end();
    }

    /** "The account 0 .. 7 has this balance, 0 .. 9999999, and key, and LAST 0. 0, or REFUSED." */
    private static void accountArguments(Check c) {
        int[] accounts = {Integer.MIN_VALUE, -1, 0, 1, 6, 7, 8, 9, Integer.MAX_VALUE};
        int[] balances = {Integer.MIN_VALUE, -1, 0, 1, 9999998, 9999999, 10000000, Integer.MAX_VALUE};
        for (int account : accounts) {
            for (int balance : balances) {
                PayChain x = new PayChain();
                boolean isTaken = account >= 0 && account <= 7 && balance >= 0 && balance <= 9999999;
                String what = "account(" + account + ", " + balance + ", 7)";
                c.due(what, x.account(account, balance, 7), isTaken ? 0 : PayChain.REFUSED);
                for (int i = 0; i < 8; i++) {
                    c.due("balance(" + i + ") after " + what, x.balance(i), isTaken && i == account ? balance : 0);
                }
            }
        }
    }

    /** A refused account changes neither balance nor key nor LAST. */
    private static void refusedAccountStays(Check c) {
        int[] balances = {-1, 10000000};
        for (int balance : balances) {
            PayChain x = CardText.online();
            CardText.needed().make(x, 1, 7, 1);
            x.pay(0, 1, -1, 0);
            c.unchanged("account(2, " + balance + ", 8)", x, () -> x.account(2, balance, 8), PayChain.REFUSED);
            x.pay(1, 1, -1, 0);
            c.due("key and LAST as before", x.last(7), 3);
            x.pay(1, 1, -1, 0);
            c.due("balance as before", x.balance(2), 998);
        }
    }

    /** "CODE 4 if the balance is below the amount, else CODE 1 and the balance falls by the amount" */
    private static void balanceAtTheAmount(Check c) {
        int[] amounts = {1, 2, 500, 999998, 999999};
        for (int amount : amounts) {
            for (int balance = Math.max(0, amount - 2); balance <= amount + 1; balance++) {
                PayChain x = CardText.online(CardText.needed(), 7, 7, balance);
                boolean isBooked = balance >= amount;
                String what = "balance " + balance + ", amount " + amount;
                c.due(what, x.pay(0, amount, -1, 0), isBooked ? PayChain.APPROVED : PayChain.DECLINED);
                c.due(what + ": CODE", x.last(7), isBooked ? 1 : 4);
                c.due(what + ": balance", x.balance(2), isBooked ? balance - amount : balance);
            }
        }
    }

    /** "the balance falls by the amount", from the largest down to nothing */
    private static void largestBalance(Check c) {
        PayChain x = CardText.online(CardText.needed(), 7, 7, 9999999);
        for (int i = 1; i <= 10; i++) {
            x.pay(0, 999999, -1, 0);
            c.due("CODE of payment " + i, x.last(7), 1);
        }
        c.due("what is left", x.balance(2), 9);
        x.pay(0, 10, -1, 0);
        c.due("above it", x.last(7), 4);
        x.pay(0, 9, -1, 0);
        c.due("all of it", x.last(7) * 10 + x.balance(2), 10);
        x.pay(0, 1, -1, 0);
        c.due("of nothing", x.last(7), 4);
    }

    /** "3 if COUNTER is not above the account's LAST" */
    private static void counterAtLast(Check c) {
        for (int other = 1; other <= 4; other++) {
            PayChain x = CardText.online();
            CardText.needed().make(x, 1, 7, 1);
            x.pay(0, 1, -1, 0);
            x.pay(0, 1, -1, 0);
            for (int i = 1; i < other; i++) {
                x.pay(1, 1, -1, 1);
            }
            x.pay(1, 1, -1, 0);
            c.due("COUNTER " + other + ", LAST 2", x.last(7), other > 2 ? 1 : 3);
            c.due("balance", x.balance(2), other > 2 ? 997 : 998);
        }
    }

    /** "LAST = COUNTER" with CODE 1 and 4, and only then; it is that of the account, and "account" sets it to 0 */
    private static void lastIsKept(Check c) {
        int[][] rows = {{1000, 7, 0, 3}, {0, 7, 0, 3}, {1000, 8, 0, 1}, {1000, 7, 1, 1}, {1000, 7, 2, 3},
            {1000, 7, 3, 3}};
        for (int[] r : rows) {
            PayChain x = CardText.online(CardText.needed(), r[1], 7, r[0]);
            CardText.needed().make(x, 1, 7, 1);
            CardText.needed().make(x, 2, 7, 1);
            x.pay(0, 1, -1, r[2]);
            x.pay(1, 1, -1, 0);
            String what = "after balance " + r[0] + ", card's key " + r[1] + ", fate " + r[2];
            c.due(what, x.last(7), r[3]);
            x.account(2, 1000, 7);
            x.pay(2, 1, -1, 0);
            c.due("LAST is 0 again", x.last(7), 1);
        }
        PayChain x = CardText.online();
        x.account(3, 1000, 7);
        new CardText().with(90, 3).with(24356, 0, 1).with(140).make(x, 1, 7, 1);
        x.pay(0, 1, -1, 0);
        x.pay(1, 1, -1, 0);
        c.due("each account has its own", x.last(7), 1);
    }

    /** "3 if COUNTER is not above": neither CODE 3 nor CODE 2 sets LAST, to less or to more. */
    private static void lastIsNotSet(Check c) {
        PayChain x = CardText.online();
        CardText.needed().make(x, 1, 7, 1);
        CardText.needed().make(x, 2, 8, 1);
        CardText.needed().make(x, 3, 7, 1);
        for (int i = 0; i < 3; i++) {
            x.pay(0, 1, -1, 0);
        }
        x.pay(1, 1, -1, 0);
        c.due("COUNTER 1, LAST 3", x.last(7), 3);
        x.pay(1, 1, -1, 0);
        c.due("COUNTER 2: LAST was not set to less", x.last(7), 3);
        for (int i = 0; i < 5; i++) {
            x.pay(2, 1, -1, 0);
            c.due("another key, COUNTER " + (i + 1), x.last(7), 2);
        }
        x.pay(1, 1, -1, 0);
        c.due("COUNTER 3: LAST was not set to less", x.last(7), 3);
        x.pay(1, 1, -1, 0);
        c.due("COUNTER 4: LAST was not set to more", x.last(7), 1);
        x.pay(3, 1, -1, 0);
        c.due("COUNTER 1, LAST 4", x.last(7), 3);
        c.due("balance", x.balance(2), 996);
    }

    /** "CODE 2 if ..; else 3 if ..; else .. CODE 4 if .., else CODE 1" */
    private static void orderOfCodes(Check c) {
        for (int all = 0; all < 8; all++) {
            boolean isWrongKey = (all & 1) != 0;
            boolean isOld = (all & 2) != 0;
            boolean isPoor = (all & 4) != 0;
            PayChain x = CardText.online();
            CardText.needed().make(x, 1, isWrongKey ? 8 : 7, 1);
            if (isOld) {
                x.pay(0, 1, -1, 0);
            }
            long before = x.balance(2);
            int amount = isPoor ? 5000 : 5;
            x.pay(1, amount, -1, 0);
            int code = isWrongKey ? 2 : isOld ? 3 : isPoor ? 4 : 1;
            c.due("wrong key " + isWrongKey + ", old " + isOld + ", poor " + isPoor, x.last(7), code);
            c.due("balance", x.balance(2), code == 1 ? before - amount : before);
            c.due("outcome", x.last(0), code == 1 ? PayChain.APPROVED : PayChain.DECLINED);
            c.due("flag 1024", x.last(1) & 1024, code == 2 ? 1024 : 0);
        }
    }

    /** "if the cryptogram is not the MAC with the account's key" */
    private static void everyBitOfTheKey(Check c) {
        int[] keys = {0, -1, 7, Integer.MIN_VALUE, Integer.MAX_VALUE};
        for (int key : keys) {
            PayChain same = CardText.online(CardText.needed(), key, key, 1000);
            c.due("the same key " + key, same.pay(0, 1, -1, 0) * 10 + same.last(7), 11);
            for (int bit = 0; bit < 32; bit++) {
                PayChain x = CardText.online(CardText.needed(), key, key ^ 1 << bit, 1000);
                c.due("keys apart in bit " + bit, x.pay(0, 1, -1, 0) * 10 + x.last(7), 22);
                c.due("flags", x.last(1), 1024 + 512 + 64);
                c.due("balance", x.balance(2), 1000);
            }
        }
    }

    /** "COUNTER / 256 % 256, COUNTER % 256" */
    private static void counterOverOneByte(Check c) {
        PayChain x = CardText.online();
        x.setting(6, 0);
        for (int counter = 1; counter <= 300; counter++) {
            x.pay(0, 1, -1, 0);
            if (counter == 1 || counter >= 254 && counter <= 258) {
                c.due("COUNTER " + counter, x.last(4), Check.mac(7, 2, counter / 256, counter % 256));
                c.due("card(0, 1)", x.card(0, 1), counter);
            }
        }
        x.setting(6, 65535);
        x.pay(0, 1, -1, 0);
        c.due("the host takes COUNTER 301", x.last(7), 1);
        c.due("first cryptogram", x.last(4), Check.mac(7, 1, 1, 45));
        c.due("second cryptogram", x.last(6), Check.mac(7, 2, 1, 45));
    }

    /** "if the SEAL is the MAC of the same with the card's key, RUN is 0 and SEEN is true", whatever the CODE */
    private static void runAndSeenByCode(Check c) {
        for (int code = 1; code <= 4; code++) {
            for (int fate = 0; fate <= 3; fate++) {
                PayChain x = CardText.online();
                CardText.needed().make(x, 1, 7, 1);
                if (code == 3) {
                    x.pay(0, 1, -1, 0);
                    x.pay(0, 1, -1, 0);
                }
                x.setting(6, 0);
                x.pay(1, 1, -1, 0);
                x.setting(6, 65535);
                if (code == 2) {
                    x.account(2, 1000, 8);
                }
                x.pay(1, code == 4 ? 5000 : 5, -1, fate);
                String what = "CODE " + code + ", fate " + fate;
                c.due(what, x.last(7), fate == 1 ? 0 : code);
                boolean isTaken = fate == 0 && code != 2;
                c.due(what + ": RUN", x.card(1, 2), isTaken ? 0 : fate == 1 || fate == 2 ? 2 : 1);
                c.due(what + ": SEEN", x.card(1, 3), isTaken ? 1 : 0);
                c.due(what + ": flags", x.last(1), 512 + 64 + (fate == 0 && code == 2 ? 1024 : 0));
                c.due(what + ": second answer", x.last(5), secondAnswer(code, fate));
            }
        }
    }

    private static int secondAnswer(int code, int fate) {
        if (fate == 3) {
            return -1;
        }
        return fate != 0 || code == 1 ? 2 : 0;
    }

    /** "7 CODE (0 if the host did not work)" */
    private static void hostDidNotWork(Check c) {
        PayChain lost = CardText.online();
        lost.pay(0, 1, -1, 1);
        c.due("a lost request", lost.last(7), 0);
        c.due("balance", lost.balance(2), 1000);
        c.due("count(4)", lost.count(4), 0);
        PayChain off = CardText.online(CardText.needed().with(40739, 0), 7, 7, 1000);
        off.setting(2, 0);
        off.pay(0, 1, -1, 2);
        c.due("not connected", off.last(7), 0);
        PayChain after = CardText.online();
        after.pay(0, 1, -1, 0);
        after.setting(6, 0);
        after.pay(0, 1, -1, 0);
        c.due("not asked, after one that was", after.last(7), 0);
        c.due("no second answer of before", after.last(5), -1);
        c.due("nor its cryptogram", after.last(6), 0);
    }

    /** "the card has UPPER and RUN is not below it; else 2, and RUN grows by 1" */
    private static void noReplyAtUpper(Check c) {
        for (int fate = 1; fate <= 2; fate++) {
            for (int upper = 0; upper <= 3; upper++) {
                PayChain x = CardText.online(CardText.needed().with(40739, upper), 7, 7, 1000);
                for (int i = 0; i < 5; i++) {
                    boolean isBelow = i < upper;
                    String what = "fate " + fate + ", UPPER " + upper + ", payment " + (i + 1);
                    c.due(what, x.pay(0, 1, -1, fate), isBelow ? PayChain.APPROVED : PayChain.DECLINED);
                    c.due(what + ": second answer", x.last(5), isBelow ? 2 : 0);
                    c.due(what + ": RUN", x.card(0, 2), Math.min(i + 1, upper));
                    c.due(what + ": its cryptogram", x.last(6), Check.mac(7, isBelow ? 2 : 0, 0, i + 1));
                }
            }
        }
        PayChain lower = CardText.online(CardText.needed().with(40724, 0), 7, 7, 1000);
        c.due("LOWER does not count", lower.pay(0, 1, -1, 1), PayChain.APPROVED);
    }

    /** "no reply: 0 if a flag is in one of the two DEFAULT": each bit of them */
    private static void noReplyAndDefault(Check c) {
        for (int fate = 1; fate <= 2; fate++) {
            for (int mask = 1; mask < 65536; mask *= 2) {
                boolean isHit = mask == 512 || mask == 64;
                int outcome = isHit ? PayChain.DECLINED : PayChain.APPROVED;
                PayChain byTerminal = CardText.online();
                byTerminal.setting(4, mask);
                c.due("setting 4 is " + mask + ", fate " + fate, byTerminal.pay(0, 1, -1, fate), outcome);
                c.due("RUN", byTerminal.card(0, 2), isHit ? 0 : 1);
                CardText text = CardText.needed().with(40717, mask / 256, mask % 256);
                PayChain byCard = CardText.online(text, 7, 7, 1000);
                c.due("40717 is " + mask + ", fate " + fate, byCard.pay(0, 1, -1, fate), outcome);
                c.due("with a reply it does not count", byCard.pay(0, 1, -1, 0), PayChain.APPROVED);
            }
        }
    }

    /** "5 second answer (-1 if there was none), 6 its cryptogram (0 if none)" */
    private static void noSecondAnswer(Check c) {
        PayChain x = CardText.online();
        x.pay(0, 1, -1, 0);
        c.due("a second answer", x.last(5) * 10 + (x.last(6) == Check.mac(7, 2, 0, 1) ? 1 : 0), 21);
        x.pay(0, 1, -1, 3);
        c.due("none when the card is out", x.last(5), -1);
        c.due("and no cryptogram", x.last(6), 0);
        x.pay(0, 1, -1, 0);
        x.setting(5, 65535);
        x.pay(0, 1, -1, 0);
        c.due("none when declined at once", x.last(5), -1);
        c.due("and no cryptogram", x.last(6), 0);
    }
}
