import java.util.Arrays;

/** The words of programs, by their names. */
final class Words {
    static final int STOP = 0;
    static final int POP = 2;
    static final int ADD = 5;
    static final int SUB = 6;
    static final int MUL = 7;
    static final int DIV = 8;
    static final int LESS = 9;
    static final int SAME = 10;
    static final int NONE = 11;
    static final int JUMP = 12;
    static final int JUMPIF = 13;
    static final int LOAD = 14;
    static final int STORE = 15;
    static final int BALANCE = 16;
    static final int SELF = 17;
    static final int CALLER = 18;
    static final int VALUE = 19;
    static final int INPUT = 20;
    static final int GAS = 21;
    static final int CALL = 22;
    static final int DELEGATE = 23;
    static final int CREATE = 24;
    static final int LOG = 25;
    static final int RETURN = 26;
    static final int REVERT = 27;
    static final int END = 28;

    private Words() {
    }

    static int push(int a) {
        return a << 5 | 1;
    }

    static int dup(int a) {
        return a << 5 | 3;
    }

    static int swap(int a) {
        return a << 5 | 4;
    }

    static void load(GasLedger ledger, int account, int... words) {
        for (int word : words) {
            if (!ledger.code(account, word)) {
                throw new IllegalStateException("account " + account + " takes no more words");
            }
        }
    }

    /** The parts one behind the other. */
    static int[] join(int[]... parts) {
        int length = 0;
        for (int[] part : parts) {
            length += part.length;
        }
        int[] all = new int[length];
        int at = 0;
        for (int[] part : parts) {
            System.arraycopy(part, 0, all, at, part.length);
            at += part.length;
        }
        return all;
    }

    static int[] words(int... words) {
        return words;
    }

    /** The same word so many times. */
    static int[] repeat(int count, int word) {
        int[] all = new int[count];
        Arrays.fill(all, word);
        return all;
    }

    /** A CALL of an account with gas, a value and an input; 5 words. */
    static int[] call(int gas, int to, int value, int input) {
        return words(push(input), push(value), push(to), push(gas), CALL);
    }

    /** A DELEGATE to an account with gas and an input; 4 words. */
    static int[] delegate(int gas, int to, int input) {
        return words(push(input), push(to), push(gas), DELEGATE);
    }

    /** Puts a number into a slot; 3 words. */
    static int[] store(int k, int v) {
        return words(push(v), push(k), STORE);
    }

    /** Puts the top into a slot; 2 words. */
    static int[] keep(int k) {
        return words(push(k), STORE);
    }

    /** A CREATE of so many words from a place, with a value; 4 words. */
    static int[] create(int value, int place, int number) {
        return words(push(number), push(place), push(value), CREATE);
    }
}
