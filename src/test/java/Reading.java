import java.util.ArrayList;
import java.util.Arrays;
import java.util.Collections;
import java.util.List;

/**
 * A second reading of the document, written apart from the program and as near to the document's words as they go,
 * with no thought of room or speed: it keeps every payment and looks each thing up anew.
 */
final class Reading {
    /** An object, with the place of its first byte. */
    private static final class Thing {
        int place;
        int tag;
        boolean isCut;
        int[] value;
        final List<Thing> inner = new ArrayList<>();
    }

    private static final class Demand {
        int tag;
        int size;
    }

    private static final class ReadCard {
        List<Thing> objects;
        int key;
        int pin;
        int tries = 3;
        int counter;
        int run;
        boolean seen;

        Thing thing(int tag) {
            Thing first = null;
            for (Thing each : objects) {
                if (each.tag == tag && (first == null || each.place < first.place)) {
                    first = each;
                }
            }
            return first;
        }

        boolean has(int tag) {
            return thing(tag) != null;
        }

        int number(int tag) {
            return has(tag) ? numberOf(thing(tag).value) : 0;
        }
    }

    private static final class Account {
        long balance;
        int key;
        int last;
    }

    private static final class Paid {
        int number;
        int amount;
        int pin;
        int fate;
        int account;
        int outcome;
        int flags;
        int wish;
        int firstAnswer;
        int firstCryptogram;
        int secondAnswer = -1;
        int secondCryptogram;
        int code;
        boolean reply;
        boolean reversed;
        List<Integer> data = new ArrayList<>();
    }

    private final List<Integer> text = new ArrayList<>();
    private final ReadCard[] cards = new ReadCard[4];
    private final Account[] accounts = new Account[8];
    private final int[] settings = new int[7];
    private final List<Paid> payments = new ArrayList<>();
    private final List<Integer> queue = new ArrayList<>();
    private int place = -1;

    Reading() {
        for (int i = 0; i < 8; i++) {
            accounts[i] = new Account();
        }
    }

    // Objects.

    static int numberOf(int[] row) {
        int number = 0;
        for (int b : row) {
            number = 256 * number + b;
        }
        return number;
    }

    /** Cuts the bytes from .. to of a row; BAD places and objects go to the lists, and what is directly there comes back. */
    private static List<Thing> cut(int[] row, int from, int to, int around, List<Thing> all, List<Integer> bad) {
        List<Thing> here = new ArrayList<>();
        int at = from;
        while (at < to) {
            int begin = at;
            if (around > 3) {
                bad.add(begin);
            }
            Thing thing = new Thing();
            thing.place = begin;
            int first = row[at++];
            thing.tag = first;
            thing.isCut = first / 32 % 2 == 1;
            if (first % 32 == 31) {
                if (at >= to || row[at] > 127) {
                    bad.add(begin);
                    return here;
                }
                thing.tag = 256 * first + row[at++];
            }
            if (at >= to || (row[at] > 127 && row[at] != 129)) {
                bad.add(begin);
                return here;
            }
            int length = row[at++];
            if (length == 129) {
                if (at >= to) {
                    bad.add(begin);
                    return here;
                }
                length = row[at++];
            }
            if (at + length > to) {
                bad.add(begin);
                return here;
            }
            thing.value = Arrays.copyOfRange(row, at, at + length);
            if (thing.isCut) {
                thing.inner.addAll(cut(row, at, at + length, around + 1, all, bad));
            }
            all.add(thing);
            here.add(thing);
            at += length;
        }
        return here;
    }

    /** The demands of a LIST, or null if the value is none. */
    private static List<Demand> demands(int[] value) {
        List<Demand> demands = new ArrayList<>();
        int sizes = 0;
        int at = 0;
        while (at < value.length) {
            Demand demand = new Demand();
            demand.tag = value[at++];
            if (demand.tag % 32 == 31) {
                if (at >= value.length || value[at] > 127) {
                    return null;
                }
                demand.tag = 256 * demand.tag + value[at++];
            }
            if (at >= value.length) {
                return null;
            }
            demand.size = value[at++];
            sizes += demand.size;
            demands.add(demand);
        }
        return demands.size() <= 8 && sizes <= 40 ? demands : null;
    }

    private static boolean asSaid(ReadCard card, int tag) {
        Thing thing = card.thing(tag);
        if (thing == null) {
            return tag != 90 && tag != 24356 && tag != 140;
        }
        int[] value = thing.value;
        if (tag == 90) {
            return value.length == 1 && value[0] <= 7;
        }
        if (tag == 140) {
            return demands(value) != null;
        }
        if (tag == 142) {
            return value.length >= 2 && value.length <= 2 + 5 * 2 && (value.length - 2) % 2 == 0;
        }
        return value.length == (tag == 40724 || tag == 40739 ? 1 : 2);
    }

    // The calls of the face.

    int feed(int b) {
        if (b < 0 || b > 255) {
            return -1;
        }
        if (text.size() == 60) {
            return -2;
        }
        text.add(b);
        return text.size();
    }

    int wipe() {
        int had = text.size();
        text.clear();
        return had;
    }

    int make(int card, int key, int pin) {
        place = -1;
        if (card < 0 || card > 3 || pin < 0 || pin > 9999) {
            return -1;
        }
        int[] row = new int[text.size()];
        for (int i = 0; i < row.length; i++) {
            row[i] = text.get(i);
        }
        ReadCard made = new ReadCard();
        made.objects = new ArrayList<>();
        made.key = key;
        made.pin = pin;
        List<Integer> bad = new ArrayList<>();
        cut(row, 0, row.length, 0, made.objects, bad);
        if (!bad.isEmpty()) {
            place = Collections.min(bad);
            return -3;
        }
        if (made.objects.size() > 16) {
            return -2;
        }
        for (int tag : new int[] {90, 140, 142, 24356, 40717, 40718, 40719, 40724, 40739}) {
            if (!asSaid(made, tag)) {
                place = tag;
                return -4;
            }
        }
        cards[card] = made;
        text.clear();
        return made.objects.size();
    }

    int place() {
        return place;
    }

    int account(int account, int balance, int key) {
        if (account < 0 || account > 7 || balance < 0 || balance > 9999999) {
            return -1;
        }
        accounts[account].balance = balance;
        accounts[account].key = key;
        accounts[account].last = 0;
        return 0;
    }

    int setting(int which, int value) {
        if (which < 0 || which > 6 || value < 0 || value > 999999) {
            return -1;
        }
        if (value > 65535 && which != 0 && which != 2 && which != 3) {
            return -1;
        }
        settings[which] = value;
        return 0;
    }

    int pay(int card, int amount, int pin, int fate) {
        if (!isThere(card) || amount < 1 || amount > 999999 || pin < -1 || pin > 9999 || fate < 0 || fate > 3) {
            return -1;
        }
        if (queue.size() == 6) {
            return -2;
        }
        Paid paid = new Paid();
        payments.add(paid);
        paid.number = payments.size();
        paid.amount = amount;
        paid.pin = pin;
        paid.fate = fate;
        paid.account = cards[card].number(90);
        steps(paid, cards[card]);
        return paid.outcome;
    }

    int send(int fate) {
        if (fate < 0 || fate > 2 || settings[2] == 0 || queue.isEmpty()) {
            return -1;
        }
        if (fate == 1) {
            return 0;
        }
        Paid paid = payments.get(queue.get(0) - 1);
        if (paid.code == 1 && !paid.reversed) {
            paid.reversed = true;
            accounts[paid.account].balance += paid.amount;
        }
        if (fate == 2) {
            return 0;
        }
        queue.remove(0);
        return 1;
    }

    int last(int what) {
        if (what < 0 || what > 8) {
            return -1;
        }
        if (payments.isEmpty()) {
            return 0;
        }
        Paid paid = payments.get(payments.size() - 1);
        return new int[] {paid.outcome, paid.flags, paid.wish, paid.firstAnswer, paid.firstCryptogram,
            paid.secondAnswer, paid.secondCryptogram, paid.code, paid.number}[what];
    }

    int data(int i) {
        if (payments.isEmpty()) {
            return -1;
        }
        List<Integer> data = payments.get(payments.size() - 1).data;
        return i >= 0 && i < data.size() ? data.get(i) : -1;
    }

    int card(int card, int what) {
        if (!isThere(card) || what < 0 || what > 5) {
            return -1;
        }
        ReadCard there = cards[card];
        return new int[] {there.tries, there.counter, there.run, there.seen ? 1 : 0, there.objects.size(),
            there.number(90)}[what];
    }

    int value(int card, int tag, int i) {
        if (!isThere(card) || !cards[card].has(tag)) {
            return -1;
        }
        int[] value = cards[card].thing(tag).value;
        return i >= 0 && i < value.length ? value[i] : -1;
    }

    int inside(int card, int tag) {
        if (!isThere(card) || !cards[card].has(tag)) {
            return -1;
        }
        return cards[card].thing(tag).inner.size();
    }

    long balance(int account) {
        return account >= 0 && account <= 7 ? accounts[account].balance : -1;
    }

    int queued(int i) {
        return i >= 0 && i < queue.size() ? queue.get(i) : -1;
    }

    int count(int what) {
        int approved = 0;
        int standing = 0;
        for (Paid paid : payments) {
            approved += paid.outcome == 1 ? 1 : 0;
            standing += paid.code == 1 && !paid.reversed ? 1 : 0;
        }
        int[] counts = {text.size(), payments.size(), queue.size(), approved, standing};
        return what >= 0 && what < counts.length ? counts[what] : -1;
    }

    private boolean isThere(int card) {
        return card >= 0 && card <= 3 && cards[card] != null;
    }

    // The steps of a payment.

    private void steps(Paid paid, ReadCard card) {
        card.counter++;
        if (settings[1] > card.number(24356)) {
            paid.flags |= 1;
        }
        if (!card.seen) {
            paid.flags |= 512;
        }
        if (card.has(142)) {
            holder(paid, card);
        }
        risks(paid, card);
        paid.wish = wish(paid, card);
        gather(paid, card);
        paid.firstAnswer = card.tries == 0 || paid.wish == 0 ? 0
                : paid.wish == 1 || isAtUpper(card) ? 1
                : 2;
        paid.firstCryptogram = cryptogram(paid, card.key, card.counter, paid.firstAnswer);
        if (paid.firstAnswer == 0) {
            paid.outcome = 2;
        } else if (paid.firstAnswer == 2) {
            card.run++;
            paid.outcome = 1;
        } else {
            int seal = host(paid, card);
            second(paid, card, seal);
            reversal(paid);
        }
    }

    private void holder(Paid paid, ReadCard card) {
        int[] value = card.thing(142).value;
        int limit = numberOf(Arrays.copyOf(value, 2));
        for (int rule = 0; rule < (value.length - 2) / 2; rule++) {
            int code = value[2 + 2 * rule];
            int when = value[3 + 2 * rule];
            boolean counts = when == 0
                    || (when == 1 && paid.amount < limit)
                    || (when == 2 && paid.amount > limit)
                    || (when == 3 && settings[3] != 0);
            if (!counts) {
                continue;
            }
            boolean next = code / 64 % 2 == 1;
            if (met(next ? code - 64 : code, paid, card)) {
                return;
            }
            if (!next) {
                paid.flags |= 4;
                return;
            }
        }
        paid.flags |= 4;
    }

    private boolean met(int code, Paid paid, ReadCard card) {
        if (code == 31) {
            return true;
        }
        if (code == 1) {
            if (settings[3] == 0 || paid.pin == -1) {
                paid.flags |= 16;
            } else if (card.tries == 0) {
                paid.flags |= 32;
            } else if (paid.pin == card.pin) {
                card.tries = 3;
                return true;
            } else {
                card.tries--;
            }
        } else if (code != 0) {
            paid.flags |= 8;
        }
        return false;
    }

    private void risks(Paid paid, ReadCard card) {
        if (!(paid.amount < settings[0])) {
            paid.flags |= 64;
        }
        if (card.has(40724) && card.has(40739)) {
            if (!(card.run < card.number(40724))) {
                paid.flags |= 128;
            }
            if (!(card.run < card.number(40739))) {
                paid.flags |= 256;
            }
        }
    }

    private boolean flagIn(Paid paid, int cardMask, int terminalMask) {
        return (paid.flags & cardMask) != 0 || (paid.flags & terminalMask) != 0;
    }

    private int wish(Paid paid, ReadCard card) {
        if (flagIn(paid, card.number(40718), settings[5])) {
            return 0;
        }
        if (settings[2] != 0) {
            return flagIn(paid, card.number(40719), settings[6]) ? 1 : 2;
        }
        return flagIn(paid, card.number(40717), settings[4]) ? 0 : 2;
    }

    private void gather(Paid paid, ReadCard card) {
        for (Demand demand : demands(card.thing(140).value)) {
            long number = demand.tag == 40706 ? paid.amount
                    : demand.tag == 149 ? paid.flags
                    : demand.tag == 154 ? settings[1]
                    : demand.tag == 40759 ? paid.number
                    : 0;
            List<Integer> bytes = new ArrayList<>();
            for (int i = 0; i < demand.size; i++) {
                bytes.add(0, (int) (number % 256));
                number /= 256;
            }
            paid.data.addAll(bytes);
        }
    }

    private static boolean isAtUpper(ReadCard card) {
        return card.has(40739) && !(card.run < card.number(40739));
    }

    private static int cryptogram(Paid paid, int key, int counter, int answer) {
        int[] row = new int[3 + paid.data.size()];
        row[0] = answer;
        row[1] = counter / 256 % 256;
        row[2] = counter % 256;
        for (int i = 3; i < row.length; i++) {
            row[i] = paid.data.get(i - 3);
        }
        return Check.mac(key, row);
    }

    private static int seal(int key, int code, int cryptogram) {
        return Check.mac(key, code, cryptogram >>> 24, cryptogram >>> 16 & 255, cryptogram >>> 8 & 255,
                cryptogram & 255);
    }

    /** Step 8: the SEAL, if the host worked. */
    private int host(Paid paid, ReadCard card) {
        if (settings[2] == 0 || paid.fate == 1) {
            return 0;
        }
        Account account = accounts[paid.account];
        if (paid.firstCryptogram != cryptogram(paid, account.key, card.counter, paid.firstAnswer)) {
            paid.code = 2;
        } else if (!(card.counter > account.last)) {
            paid.code = 3;
        } else {
            account.last = card.counter;
            if (account.balance < paid.amount) {
                paid.code = 4;
            } else {
                paid.code = 1;
                account.balance -= paid.amount;
            }
        }
        paid.reply = paid.fate != 2;
        return seal(account.key, paid.code, paid.firstCryptogram);
    }

    private void second(Paid paid, ReadCard card, int seal) {
        if (paid.fate == 3) {
            paid.outcome = 3;
            return;
        }
        if (!paid.reply) {
            if (flagIn(paid, card.number(40717), settings[4]) || card.tries == 0 || isAtUpper(card)) {
                paid.secondAnswer = 0;
            } else {
                paid.secondAnswer = 2;
                card.run++;
            }
        } else if (seal == seal(card.key, paid.code, paid.firstCryptogram)) {
            card.run = 0;
            card.seen = true;
            paid.secondAnswer = paid.code == 1 ? 2 : 0;
        } else {
            paid.flags |= 1024;
            paid.secondAnswer = 0;
        }
        paid.secondCryptogram = cryptogram(paid, card.key, card.counter, paid.secondAnswer);
        paid.outcome = paid.secondAnswer == 2 ? 1 : 2;
    }

    private void reversal(Paid paid) {
        if (settings[2] == 0) {
            return;
        }
        if (paid.reply && (paid.code != 1 || paid.outcome == 1)) {
            return;
        }
        queue.add(paid.number);
    }
}
