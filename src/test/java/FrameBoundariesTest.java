/** The boundary cases of CALL, DELEGATE, CREATE and END, of what is undone, and of a transaction. */
public final class FrameBoundariesTest {
    private static final int GREATEST = Integer.MAX_VALUE;
    private static final int LEAST = Integer.MIN_VALUE;
    private static final int[] NO_ACCOUNTS = {-1, 16, 17, -16, LEAST, GREATEST};
    /** Makes one number of what a frame pushed, output + 1000 * flag, and answers it. */
    private static final int[] TELL = Words.words(Words.push(1000), Words.MUL, Words.ADD, Words.RETURN);
    private static final int TELLING = 1 + 2 + 1;

    private final Sentences sentences = new Sentences();

    private FrameBoundariesTest() throws Exception {
    }

    public static void main(String[] args) throws Exception {
        FrameBoundariesTest test = new FrameBoundariesTest();
        test.accountsToCall();
        test.valuesToGive();
        test.valuesBelowNought();
        test.givingToItself();
        test.eightFrames();
        test.framesThatHaveEndedDoNotCount();
        test.gasToGive();
        test.tenMore();
        test.gasThatComesBack();
        test.outputs();
        test.accountsToDelegateTo();
        test.delegateLooksAtNoBalance();
        test.gasOfADelegate();
        test.eightDelegates();
        test.wordsToCreate();
        test.wordsFarOffToCreate();
        test.numbersThatAreNoPrice();
        test.valuesToCreateWith();
        test.leastEmptyAccount();
        test.noEmptyAccount();
        test.accountsToEndTo();
        test.balancesToEndWith();
        test.eachThingUndone();
        test.undoneInATransaction();
        test.gasIsNotUndone();
        test.whatWasDoneBeforeStays();
        test.endsWell();
        test.callersOfFrames();
        test.codeOfTheSameTransaction();
        test.nonceOfACreator();
        test.leastTransaction();
        test.nothingIsAdded();
        test.whatIsTakenFirst();
        test.halfOfTheUsedGas();
        test.noRefundAtTheBeginning();
        test.nothingToGoAtTheBeginning();
        test.allOfAGoerGoes();
        test.goersGetTheirMoneyFirst();
        test.sentences.close();
    }

    /** A ledger with 100000 in account 0, 100 in account 1, and a program there. */
    private static GasLedger ledger(int[]... parts) {
        GasLedger x = new GasLedger();
        x.fund(0, 100000);
        x.fund(1, 100);
        Words.load(x, 1, Words.join(parts));
        return x;
    }

    /** Begins a block and sends a transaction from account 0 to account 1. */
    private static GasLedger go(GasLedger x, int limit, int value, int input) {
        x.begin(1, 15);
        x.terms(limit, 1, 0);
        x.pay(0, 1, value, input);
        return x;
    }

    private void receiptDue(String name, GasLedger x, int status, int used, int output) {
        sentences.due(name + ": status", x.receipt(0, 0), status);
        sentences.due(name + ": used gas", x.receipt(0, 1), used);
        sentences.due(name + ": output", x.receipt(0, 2), output);
    }

    /** Calls the account that the input names. */
    private static GasLedger callAccount(int account, int value) {
        GasLedger x = ledger(Words.words(Words.push(0), Words.push(value), Words.INPUT, Words.push(100), Words.CALL), TELL);
        Words.load(x, 15, Words.push(7), Words.RETURN);
        return go(x, 500, 0, account);
    }

    private void accountsToCall() {
        sentences.by("CALL: if there is no account t, the balance of SELF is less than v, or eight frames are under way,"
            + " it pushes 0 and then 0.");
        receiptDue("CALL of 0", callAccount(0, 0), 1, 20 + 34 + TELLING, 1000);
        receiptDue("CALL of 15", callAccount(15, 0), 1, 20 + 34 + 1 + TELLING, 1007);
        receiptDue("CALL of 15 for 3", callAccount(15, 3), 1, 20 + 54 + 1 - 10 + TELLING, 1007);
        for (int account : NO_ACCOUNTS) {
            receiptDue("CALL of " + account, callAccount(account, 0), 1, 20 + 34 + TELLING, 0);
            GasLedger x = callAccount(account, 3);
            receiptDue("CALL of " + account + " for 3", x, 1, 20 + 54 + TELLING, 0);
            sentences.due("CALL of " + account + " for 3: look(1, 0)", x.look(1, 0), 100);
        }
    }

    /** Gives the value that the input names to account 2. */
    private static GasLedger callWith(int value) {
        GasLedger x = ledger(Words.words(Words.push(0), Words.INPUT, Words.push(2), Words.push(100), Words.CALL), TELL);
        Words.load(x, 2, Words.push(7), Words.RETURN);
        return go(x, 500, 0, value);
    }

    private void valuesToGive() {
        sentences.by("CALL: if there is no account t, the balance of SELF is less than v, or eight frames are under way,"
            + " it pushes 0 and then 0.");
        int[] values = {0, 1, 99, 100};
        for (int value : values) {
            GasLedger x = callWith(value);
            int used = 20 + 34 + 1 + TELLING + (value == 0 ? 0 : 10);
            receiptDue("CALL for " + value + " of 100", x, 1, used, 1007);
            sentences.due("CALL for " + value + ": look(1, 0)", x.look(1, 0), 100 - value);
            sentences.due("CALL for " + value + ": look(2, 0)", x.look(2, 0), value);
        }
        int[] tooGreat = {101, 102, GREATEST};
        for (int value : tooGreat) {
            GasLedger x = callWith(value);
            receiptDue("CALL for " + value + " of 100", x, 1, 20 + 54 + TELLING, 0);
            sentences.due("CALL for " + value + ": look(1, 0)", x.look(1, 0), 100);
            sentences.due("CALL for " + value + ": look(2, 0)", x.look(2, 0), 0);
        }
        GasLedger poor = new GasLedger();
        poor.fund(0, 1000);
        Words.load(poor, 1, Words.join(Words.call(100, 2, 0, 0), TELL));
        go(poor, 500, 0, 0);
        receiptDue("CALL for 0 of 0", poor, 1, 20 + 34 + TELLING, 1000);
    }

    private void valuesBelowNought() {
        sentences.by("pops gas g, account t, value v, input i; fails if v is less than 0");
        int[] values = {-1, -2, LEAST};
        for (int value : values) {
            GasLedger x = callWith(value);
            receiptDue("CALL for " + value, x, 0, 500, 0);
            sentences.due("CALL for " + value + ": look(1, 0)", x.look(1, 0), 100);
            sentences.due("CALL for " + value + ": look(2, 0)", x.look(2, 0), 0);
            GasLedger none = ledger(
                Words.words(Words.push(0), Words.INPUT, Words.push(16), Words.push(100), Words.CALL), TELL);
            receiptDue("CALL of no account for " + value, go(none, 500, 0, value), 0, 500, 0);
            GasLedger last = ledger(Words.words(Words.push(0), Words.INPUT, Words.push(2), Words.push(100), Words.CALL));
            receiptDue("CALL for " + value + " as the last word", go(last, 500, 0, value), 0, 500, 0);
        }
    }

    private void givingToItself() {
        sentences.by("Else SELF gives v to t, and a frame runs");
        GasLedger x = ledger(Words.words(Words.INPUT, Words.push(4), Words.JUMPIF, Words.STOP),
            Words.call(100, 1, 100, 0), TELL);
        receiptDue("all of its balance to itself", go(x, 500, 0, 1), 1, 20 + 6 + 54 + 6 - 10 + TELLING, 1000);
        sentences.due("all of its balance to itself: look(1, 0)", x.look(1, 0), 100);
    }

    /** Accounts 1 .. 9, each of which calls the next one, logs the flag and stops. */
    private static GasLedger chain(boolean delegates) {
        GasLedger x = new GasLedger();
        x.fund(0, 100000);
        for (int account = 1; account <= 9; account++) {
            int[] inner = delegates ? Words.delegate(2999, account + 1, 0) : Words.call(2999, account + 1, 0, 0);
            Words.load(x, account, Words.join(inner, Words.words(Words.LOG)));
        }
        x.begin(1, 15);
        return x;
    }

    private void eightFrames() {
        sentences.by("eight frames are under way");
        GasLedger x = chain(false);
        x.terms(3000, 1, 0);
        x.pay(0, 3, 0, 0);
        sentences.due("3 .. 10 are eight: status", x.receipt(0, 0), 1);
        sentences.due("3 .. 10 are eight: used gas", x.receipt(0, 1), 20 + 7 * (34 + 12));
        sentences.due("3 .. 10 are eight: block(7)", x.block(7), 7);
        for (int k = 0; k < 7; k++) {
            sentences.due("3 .. 10 are eight: log(" + k + ", 0)", x.log(k, 0), 9 - k);
            sentences.due("3 .. 10 are eight: log(" + k + ", 1)", x.log(k, 1), 1);
        }
        x = chain(false);
        x.terms(3000, 1, 0);
        x.pay(0, 2, 0, 0);
        sentences.due("2 .. 10 are nine: status", x.receipt(0, 0), 1);
        sentences.due("2 .. 10 are nine: used gas", x.receipt(0, 1), 20 + 8 * (34 + 12));
        sentences.due("2 .. 10 are nine: block(7)", x.block(7), 8);
        for (int k = 0; k < 8; k++) {
            sentences.due("2 .. 10 are nine: log(" + k + ", 0)", x.log(k, 0), 9 - k);
            sentences.due("2 .. 10 are nine: log(" + k + ", 1)", x.log(k, 1), k == 0 ? 0 : 1);
        }
        x = chain(false);
        x.terms(3000, 1, 0);
        x.pay(0, 1, 0, 0);
        sentences.due("1 .. 10 are ten: used gas", x.receipt(0, 1), 20 + 8 * (34 + 12));
        sentences.due("1 .. 10 are ten: log(0, 0)", x.log(0, 0), 8);
        sentences.due("1 .. 10 are ten: log(0, 1)", x.log(0, 1), 0);
    }

    private void eightDelegates() {
        sentences.by("DELEGATE is the same without giving");
        GasLedger x = chain(true);
        x.terms(3000, 1, 0);
        x.pay(0, 3, 0, 0);
        sentences.due("3 .. 10 are eight: block(7)", x.block(7), 7);
        sentences.due("3 .. 10 are eight: log(0, 0)", x.log(0, 0), 3);
        sentences.due("3 .. 10 are eight: log(0, 1)", x.log(0, 1), 1);
        x = chain(true);
        x.terms(3000, 1, 0);
        x.pay(0, 2, 0, 0);
        sentences.due("2 .. 10 are nine: block(7)", x.block(7), 8);
        sentences.due("2 .. 10 are nine: used gas", x.receipt(0, 1), 20 + 8 * (33 + 12));
        sentences.due("2 .. 10 are nine: log(0, 1)", x.log(0, 1), 0);
        sentences.due("2 .. 10 are nine: log(1, 1)", x.log(1, 1), 1);
    }

    /** In the seventh frame there is room for one more, and again for one more. */
    private void framesThatHaveEndedDoNotCount() {
        sentences.by("eight frames are under way");
        GasLedger x = new GasLedger();
        x.fund(0, 100000);
        for (int account = 1; account <= 6; account++) {
            Words.load(x, account, Words.call(2999, account + 1, 0, 0));
        }
        Words.load(x, 7, Words.join(Words.call(100, 8, 0, 0), Words.words(Words.LOG), Words.call(100, 9, 0, 0),
            Words.words(Words.LOG), Words.call(100, 8, 0, 0), Words.words(Words.LOG)));
        Words.load(x, 9, 31);
        x.begin(1, 15);
        x.terms(3000, 1, 0);
        x.pay(0, 1, 0, 0);
        sentences.due("status", x.receipt(0, 0), 1);
        sentences.due("the first eighth: log(0, 1)", x.log(0, 1), 1);
        sentences.due("the second eighth fails: log(1, 1)", x.log(1, 1), 0);
        sentences.due("the third eighth: log(2, 1)", x.log(2, 1), 1);
        sentences.due("used gas", x.receipt(0, 1), 20 + 9 * 34 + 3 * 12 + 100);
        x.send(0, 7, 0, 0);
        sentences.due("another transaction: log(3, 1)", x.log(3, 1), -1);
        x.terms(400, 1, 0);
        x.pay(0, 7, 0, 0);
        sentences.due("another transaction with more gas: log(3, 1)", x.log(3, 1), 1);
    }

    /** Gives the gas that the input names to account 2, which answers how much it then has. */
    private static GasLedger callWithGas(int gas, int value, int limit) {
        GasLedger x = ledger(Words.words(Words.push(0), Words.push(value), Words.push(2), Words.INPUT, Words.CALL), TELL);
        Words.load(x, 2, Words.GAS, Words.RETURN);
        return go(x, limit, 0, gas);
    }

    private void gasToGive() {
        sentences.by("with gas g, but 0 if g is less than 0, and at most what is left of this one's"
            + " (this is taken away here)");
        int left = 500 - 20 - 34;
        int[] none = {0, -1, LEAST};
        for (int gas : none) {
            receiptDue("gas " + gas, callWithGas(gas, 0, 500), 1, 20 + 34 + TELLING, 0);
        }
        int[] some = {1, 2, 100, left - 1, left};
        for (int gas : some) {
            receiptDue("gas " + gas + " of " + left, callWithGas(gas, 0, 500), 1, 20 + 34 + 1 + TELLING, 999 + gas);
        }
        int[] tooMuch = {left + 1, left + 2, GREATEST};
        for (int gas : tooMuch) {
            receiptDue("gas " + gas + " of " + left, callWithGas(gas, 0, 500), 1, 20 + 34 + 1 + TELLING, 999 + left);
        }
        receiptDue("no gas is left to give", callWithGas(5, 0, 54), 0, 54, 0);
    }

    private void tenMore() {
        sentences.by("and 10 more, if v is not 0");
        int left = 500 - 20 - 54;
        int[] none = {0, -1, LEAST};
        for (int gas : none) {
            receiptDue("gas " + gas, callWithGas(gas, 1, 500), 1, 20 + 54 + 1 - 10 + TELLING, 1009);
        }
        int[] some = {1, 100, left};
        for (int gas : some) {
            receiptDue("gas " + gas, callWithGas(gas, 1, 500), 1, 20 + 54 + 1 - 10 + TELLING, 1009 + gas);
        }
        int[] tooMuch = {left + 1, GREATEST};
        for (int gas : tooMuch) {
            receiptDue("gas " + gas, callWithGas(gas, 1, 500), 1, 20 + 54 + 1 - 10 + TELLING, 1009 + left);
        }
        receiptDue("the ten alone pay for the rest", callWithGas(0, 1, 74), 1, 20 + 54 + 1 - 10 + TELLING, 1009);
        receiptDue("one less than the price", callWithGas(0, 1, 73), 0, 73, 0);
        GasLedger x = ledger(Words.call(0, 2, 1, 0), TELL);
        Words.load(x, 2, Words.repeat(10, Words.push(1)));
        receiptDue("ten words for ten", go(x, 500, 0, 0), 1, 20 + 54 + TELLING, 1000);
        GasLedger y = ledger(Words.call(0, 2, 1, 0), TELL);
        Words.load(y, 2, Words.repeat(11, Words.push(1)));
        receiptDue("eleven words for ten", go(y, 500, 0, 0), 1, 20 + 54 + TELLING, 0);
        sentences.due("eleven words for ten: look(2, 0)", y.look(2, 0), 0);
        sentences.due("eleven words for ten: look(1, 0)", y.look(1, 0), 100);
    }

    private void gasThatComesBack() {
        sentences.by("the gas it has left is added to this one's (if it FAILED, it has none left)");
        int[][] callees = {Words.words(), Words.words(Words.push(1)), Words.words(Words.push(1), Words.RETURN),
            Words.words(Words.push(1), Words.REVERT), Words.words(Words.push(1), Words.END),
            Words.words(31), Words.words(Words.push(1), Words.POP, Words.POP)};
        int[] used = {0, 1, 1, 1, 21, 100, 100};
        for (int k = 0; k < callees.length; k++) {
            GasLedger x = ledger(Words.call(100, 2, 0, 0), Words.words(Words.GAS, Words.RETURN));
            Words.load(x, 2, callees[k]);
            go(x, 500, 0, 0);
            receiptDue("callee " + k, x, 1, 20 + 34 + used[k] + 1, 500 - 20 - 34 - used[k] - 1);
        }
        GasLedger x = ledger(Words.call(2999, 2, 0, 0), Words.words(Words.STOP));
        Words.load(x, 2, 31);
        receiptDue("all gas, and it failed", go(x, 500, 0, 0), 1, 500, 0);
        GasLedger y = ledger(Words.call(2999, 2, 0, 0), Words.words(Words.POP));
        Words.load(y, 2, 31);
        receiptDue("all gas, it failed, and one word more", go(y, 500, 0, 0), 0, 500, 0);
    }

    private void outputs() {
        sentences.by("its OUTPUT is pushed, then 1 if it ended well, else 0");
        int[][] callees = {Words.words(), Words.words(Words.push(9), Words.STOP), Words.words(Words.push(9), Words.RETURN),
            Words.words(Words.push(9), Words.REVERT), Words.words(Words.push(9), Words.END), Words.words(Words.push(9), 31)};
        int[] told = {1000, 1000, 1009, 9, 1000, 0};
        for (int k = 0; k < callees.length; k++) {
            GasLedger x = ledger(Words.call(100, 2, 0, 0), TELL);
            Words.load(x, 2, callees[k]);
            sentences.due("a CALL of callee " + k, go(x, 500, 0, 0).receipt(0, 2), told[k]);
            GasLedger y = ledger(Words.delegate(100, 2, 0), TELL);
            Words.load(y, 2, callees[k]);
            sentences.due("a DELEGATE to callee " + k, go(y, 500, 0, 0).receipt(0, 2), told[k]);
            GasLedger z = new GasLedger();
            z.fund(0, 100000);
            Words.load(z, 1, callees[k]);
            go(z, 500, 0, 0);
            sentences.due("a transaction to callee " + k, 1000 * z.receipt(0, 0) + z.receipt(0, 2), told[k]);
        }
    }

    private void accountsToDelegateTo() {
        sentences.by("DELEGATE is the same without giving, but the frame has this one's SELF, caller and value.");
        int[] accounts = {0, 15, -1, 16, LEAST, GREATEST};
        for (int account : accounts) {
            GasLedger x = ledger(Words.words(Words.push(0), Words.INPUT, Words.push(100), Words.DELEGATE), TELL);
            Words.load(x, 0, Words.CALLER, Words.SELF, Words.ADD, Words.RETURN);
            Words.load(x, 15, Words.VALUE, Words.RETURN);
            go(x, 500, 3, account);
            int inner = account == 0 ? 3 : account == 15 ? 1 : 0;
            int told = account == 0 ? 1001 : account == 15 ? 1003 : 0;
            receiptDue("DELEGATE to " + account, x, 1, 20 + 33 + inner + TELLING, told);
            sentences.due("DELEGATE to " + account + ": look(1, 0)", x.look(1, 0), 103);
        }
    }

    private void delegateLooksAtNoBalance() {
        sentences.by("DELEGATE is the same without giving, but the frame has this one's SELF, caller and value.");
        GasLedger x = ledger(Words.call(0, 3, 105, 0), Words.delegate(100, 2, 0), TELL);
        Words.load(x, 2, Words.VALUE, Words.RETURN);
        go(x, 500, 5, 0);
        receiptDue("a value of 5, and nothing left of it", x, 1, 20 + 54 - 10 + 33 + 1 + TELLING, 1005);
        sentences.due("look(1, 0)", x.look(1, 0), 0);
    }

    private void gasOfADelegate() {
        sentences.by("23 DELEGATE [30] pops g, t, i");
        int left = 500 - 20 - 33;
        int[][] gases = {{LEAST, 0}, {-1, 0}, {0, 0}, {1, 1000}, {left - 1, 998 + left}, {left, 999 + left},
            {left + 1, 999 + left}, {GREATEST, 999 + left}};
        for (int[] gas : gases) {
            GasLedger x = ledger(Words.words(Words.push(0), Words.push(2), Words.INPUT, Words.DELEGATE), TELL);
            Words.load(x, 2, Words.GAS, Words.RETURN);
            // A value of the transaction's adds no gas: a DELEGATE gives none.
            go(x, 500, 3, gas[0]);
            receiptDue("gas " + gas[0], x, 1, 20 + 33 + (gas[0] > 0 ? 1 : 0) + TELLING, gas[1]);
        }
    }

    /** A program of so many words that creates as it says and answers what CREATE pushed. */
    private static GasLedger creator(int size, int value, int place, int number) {
        int[] program = Words.join(Words.create(value, place, number), Words.words(Words.RETURN));
        GasLedger x = ledger(program);
        for (int k = program.length; k < size; k++) {
            x.code(1, 100 + k);
        }
        return x;
    }

    private void wordsToCreate() {
        sentences.by("fails if v is less than 0 or n less than 1, or if not all words from p to p + n - 1 are of the code"
            + " that runs");
        int[] sizes = {5, 6, 24};
        for (int size : sizes) {
            for (int place = -2; place <= size + 1; place++) {
                for (int number = -1; number <= size + 1; number++) {
                    boolean well = place >= 0 && number >= 1 && place + number <= size;
                    GasLedger x = go(creator(size, 0, place, number), 300, 0, 0);
                    String name = number + " words from " + place + " of " + size;
                    receiptDue(name, x, well ? 1 : 0, well ? 20 + 3 + 60 + 2 * number : 300, well ? 2 : 0);
                    sentences.due(name + ": look(2, 2)", x.look(2, 2), well ? number : 0);
                    sentences.due(name + ": look(2, 1)", x.look(2, 1), well ? 1 : 0);
                    sentences.due(name + ": look(1, 1)", x.look(1, 1), well ? 1 : 0);
                    sentences.due(name + ": the first one", x.word(2, 0), well ? x.word(1, place) : 0);
                    sentences.due(name + ": the last one", x.word(2, number - 1), well ? x.word(1, place + number - 1) : 0);
                }
            }
        }
    }

    private void wordsFarOffToCreate() {
        sentences.by("fails if v is less than 0 or n less than 1, or if not all words from p to p + n - 1 are of the code"
            + " that runs");
        int[] far = {LEAST, LEAST + 1, LEAST + 2, GREATEST - 1, GREATEST};
        for (int k : far) {
            GasLedger place = ledger(Words.words(Words.push(2), Words.INPUT, Words.push(0), Words.CREATE, Words.RETURN));
            receiptDue("2 words from " + k, go(place, 300, 0, k), 0, 300, 0);
            GasLedger number = ledger(Words.words(Words.INPUT, Words.push(2), Words.push(0), Words.CREATE, Words.RETURN));
            receiptDue(k + " words from 2", go(number, 300, 0, k), 0, 300, 0);
            GasLedger both = ledger(Words.words(Words.INPUT, Words.dup(0), Words.push(0), Words.CREATE, Words.RETURN));
            receiptDue(k + " words from there", go(both, 300, 0, k), 0, 300, 0);
            GasLedger wrapped = ledger(Words.words(Words.INPUT, Words.dup(0), Words.push(-1), Words.MUL, Words.push(0),
                Words.CREATE, Words.RETURN));
            receiptDue(k + " words from as far below", go(wrapped, 300, 0, k), 0, 300, 0);
        }
    }

    /** Whatever n says, the price does not wrap below 0 and give gas. */
    private void numbersThatAreNoPrice() {
        sentences.by("CREATE's words cost what n says, 0 if n is less than 1, 24 if it is more than 24.");
        int[] numbers = {0, -1, 25, 1 << 30, -(1 << 30), LEAST, LEAST - 30, GREATEST};
        for (int n : numbers) {
            GasLedger x = ledger(Words.words(Words.INPUT, Words.push(0), Words.push(0), Words.CREATE), Words.repeat(20, 0));
            receiptDue("n of " + n, go(x, 300, 0, n), 0, 300, 0);
            sentences.due("n of " + n + ": look(0, 0)", x.look(0, 0), 100000 - 300);
            GasLedger inner = ledger(Words.call(150, 2, 0, n), TELL);
            Words.load(inner, 2, Words.words(Words.INPUT, Words.push(0), Words.push(0), Words.CREATE));
            receiptDue("n of " + n + " inside", go(inner, 500, 0, 0), 1, 20 + 34 + 150 + TELLING, 0);
        }
        int[] full = Words.repeat(20, 0);
        receiptDue("n of 24, just the price", go(ledger(Words.create(0, 0, 24), full), 131, 0, 0), 1, 131, 0);
        receiptDue("n of 24, one less", go(ledger(Words.create(0, 0, 24), full), 130, 0, 0), 0, 130, 0);
        receiptDue("n of 23, just the price", go(ledger(Words.create(0, 0, 23), full), 129, 0, 0), 1, 129, 0);
        receiptDue("n of 23, one less", go(ledger(Words.create(0, 0, 23), full), 128, 0, 0), 0, 128, 0);
    }

    private void valuesToCreateWith() {
        sentences.by("CREATE: if the balance of SELF is less than v or there is no empty account, it pushes -1.");
        int[] values = {0, 1, 99, 100};
        for (int value : values) {
            GasLedger x = go(creator(5, value, 0, 1), 300, 0, 0);
            receiptDue("CREATE for " + value + " of 100", x, 1, 20 + 3 + 62, 2);
            sentences.due("CREATE for " + value + ": look(1, 0)", x.look(1, 0), 100 - value);
            sentences.due("CREATE for " + value + ": look(2, 0)", x.look(2, 0), value);
        }
        int[] tooGreat = {101, 102, 67108863};
        for (int value : tooGreat) {
            GasLedger x = go(creator(5, value, 0, 1), 300, 0, 0);
            receiptDue("CREATE for " + value + " of 100", x, 1, 20 + 3 + 62, -1);
            sentences.due("CREATE for " + value + ": look(1, 0)", x.look(1, 0), 100);
            sentences.due("CREATE for " + value + ": look(1, 1)", x.look(1, 1), 0);
            sentences.due("CREATE for " + value + ": look(2, 1)", x.look(2, 1), 0);
            sentences.due("CREATE for " + value + ": look(2, 2)", x.look(2, 2), 0);
        }
        int[] below = {-1, -2, -67108864};
        for (int value : below) {
            GasLedger x = go(creator(5, value, 0, 1), 300, 0, 0);
            receiptDue("CREATE for " + value, x, 0, 300, 0);
            sentences.due("CREATE for " + value + ": look(2, 2)", x.look(2, 2), 0);
        }
        receiptDue("CREATE of no word for too much fails", go(creator(5, 101, 0, 0), 300, 0, 0), 0, 300, 0);
    }

    private void leastEmptyAccount() {
        sentences.by("the least empty account gets the words as its code, and the nonce 1");
        for (int empty = 0; empty < 15; empty++) {
            GasLedger x = new GasLedger();
            for (int account = 0; account < empty; account++) {
                x.fund(account, 1000);
            }
            x.fund(15, 1000);
            Words.load(x, 15, Words.join(Words.create(7, 3, 2), Words.words(Words.RETURN)));
            x.begin(1, 15);
            x.send(15, 15, 0, 0);
            sentences.due("the least is " + empty, x.receipt(0, 2), empty);
            sentences.due("the least is " + empty + ": nonce", x.look(empty, 1), 1);
            sentences.due("the least is " + empty + ": words", x.look(empty, 2), 2);
            sentences.due("the least is " + empty + ": balance", x.look(empty, 0), 7);
            sentences.due("the least is " + empty + ": the sender's nonce", x.look(15, 1), 2);
        }
        // What a frame did that was undone leaves the account empty.
        GasLedger y = ledger(Words.call(200, 2, 0, 0), Words.call(200, 3, 0, 0), TELL);
        Words.load(y, 2, Words.join(Words.create(0, 0, 1), Words.words(Words.REVERT)));
        Words.load(y, 3, Words.join(Words.create(0, 0, 1), Words.words(Words.RETURN)));
        sentences.due("created, undone, created", go(y, 800, 0, 0).receipt(0, 2), 1004);
    }

    private void noEmptyAccount() {
        sentences.by("CREATE: if the balance of SELF is less than v or there is no empty account, it pushes -1.");
        GasLedger x = creator(5, 0, 0, 1);
        for (int account = 2; account < 15; account++) {
            x.fund(account, 1);
        }
        x.begin(1, 14);
        x.send(0, 1, 0, 0);
        sentences.due("15 is the last empty one", x.receipt(0, 2), 15);
        x.send(0, 1, 0, 0);
        sentences.due("none is empty: status", x.receipt(1, 0), 1);
        sentences.due("none is empty: used gas", x.receipt(1, 1), 20 + 3 + 62);
        sentences.due("none is empty: output", x.receipt(1, 2), -1);
        sentences.due("none is empty: look(1, 1)", x.look(1, 1), 1);
        GasLedger y = creator(5, 0, 0, 0);
        for (int account = 2; account < 16; account++) {
            y.fund(account, 1);
        }
        receiptDue("none is empty, and no word", go(y, 300, 0, 0), 0, 300, 0);
    }

    private void accountsToEndTo() {
        sentences.by("28 END [20] pops an account; fails if there is none.");
        int[] accounts = {0, 1, 2, 15};
        for (int account : accounts) {
            GasLedger x = go(ledger(Words.words(Words.INPUT, Words.END)), 300, 0, account);
            receiptDue("END to " + account, x, 1, 41, 0);
            sentences.due("END to " + account + ": look(1, 0)", x.look(1, 0), 0);
            sentences.due("END to " + account + ": look(1, 2)", x.look(1, 2), 0);
            sentences.due("END to " + account + ": total()", x.total(), account == 1 ? 100000 : 100100);
            int heir = account == 0 ? 100000 - 41 + 100 : account == 1 ? 0 : account == 15 ? 141 : 100;
            sentences.due("END to " + account + ": the heir", x.look(account, 0), heir);
        }
        for (int account : NO_ACCOUNTS) {
            GasLedger x = go(ledger(Words.words(Words.INPUT, Words.END)), 300, 0, account);
            receiptDue("END to " + account, x, 0, 300, 0);
            sentences.due("END to " + account + ": look(1, 0)", x.look(1, 0), 100);
            sentences.due("END to " + account + ": look(1, 2)", x.look(1, 2), 2);
        }
    }

    private void balancesToEndWith() {
        sentences.by("END: SELF gives its whole balance to the account; SELF is TO GO.");
        int[] balances = {0, 1, 1000000};
        for (int balance : balances) {
            GasLedger x = new GasLedger();
            x.fund(0, 1000);
            x.fund(1, balance);
            Words.load(x, 1, Words.push(2), Words.END);
            go(x, 300, 5, 0);
            sentences.due("END with " + balance + ": look(2, 0)", x.look(2, 0), balance + 5);
            sentences.due("END with " + balance + ": look(1, 0)", x.look(1, 0), 0);
            sentences.due("END with " + balance + ": look(1, 2)", x.look(1, 2), 0);
        }
        // An heir that is to go itself: what it got goes with it.
        GasLedger y = ledger(Words.call(100, 2, 0, 0), Words.call(100, 3, 0, 0));
        y.fund(2, 20);
        y.fund(3, 30);
        Words.load(y, 2, Words.push(4), Words.END);
        Words.load(y, 3, Words.push(2), Words.END);
        go(y, 500, 0, 0);
        sentences.due("an heir that is to go: look(2, 0)", y.look(2, 0), 0);
        sentences.due("an heir that is to go: look(4, 0)", y.look(4, 0), 20);
        sentences.due("an heir that is to go: total()", y.total(), 100120);
    }

    /** What account 2 can do in a frame, one thing each. */
    private static final int[][] THINGS = {
        Words.call(0, 4, 3, 0), Words.create(2, 0, 1), Words.store(0, 8), Words.store(6, 0),
        Words.words(Words.push(5), Words.LOG), Words.call(99, 5, 0, 0)};
    private static final int[] COSTS = {44, 65, 42, 12, 13, 34 + 21};
    /** What is seen of each thing if it was done, and if not. */
    private static final int[] IF_DONE = {3, 1, 8, 0, 1, 0};
    private static final int[] IF_NOT = {0, 0, 0, 6, 0, 2};

    private static GasLedger doing(int thing, int... lastWords) {
        GasLedger x = ledger(Words.call(250, 2, 7, 0), TELL);
        x.fund(2, 10);
        x.preset(2, 6, 6);
        Words.load(x, 2, Words.join(THINGS[thing], lastWords));
        x.fund(5, 55);
        Words.load(x, 5, Words.push(6), Words.END);
        return go(x, 1000, 0, 0);
    }

    private void eachThingUndone() {
        sentences.by("its value given included, is undone: balances, nonces, codes, slots, logs, refund, accounts that are"
            + " to go; gas is not.");
        for (int thing = 0; thing < THINGS.length; thing++) {
            GasLedger well = doing(thing, Words.STOP);
            int outer = 20 + 54 - 10 + TELLING;
            int refund = thing == 3 ? 15 : 0;
            receiptDue("thing " + thing + ", well", well, 1, outer + COSTS[thing] - refund, 1000);
            GasLedger reverted = doing(thing, Words.push(9), Words.REVERT);
            receiptDue("thing " + thing + ", reverted", reverted, 1, outer + COSTS[thing] + 1, 9);
            undoneDue("thing " + thing + ", reverted", reverted);
            GasLedger failed = doing(thing, Words.push(9), 30);
            receiptDue("thing " + thing + ", failed", failed, 1, outer + 260, 0);
            undoneDue("thing " + thing + ", failed", failed);
            int[] done = {well.look(4, 0), well.look(3, 2), well.slot(2, 0), well.slot(2, 6), well.block(7), well.look(5, 2)};
            for (int k = 0; k < done.length; k++) {
                sentences.due("thing " + thing + ", well, as to thing " + k, done[k], (k == thing ? IF_DONE : IF_NOT)[k]);
            }
        }
    }

    private void undoneDue(String name, GasLedger x) {
        sentences.due(name + ": look(1, 0)", x.look(1, 0), 100);
        sentences.due(name + ": look(2, 0)", x.look(2, 0), 10);
        sentences.due(name + ": look(2, 1)", x.look(2, 1), 0);
        sentences.due(name + ": slot(2, 0)", x.slot(2, 0), 0);
        sentences.due(name + ": slot(2, 6)", x.slot(2, 6), 6);
        sentences.due(name + ": look(3, 1)", x.look(3, 1), 0);
        sentences.due(name + ": look(3, 2)", x.look(3, 2), 0);
        sentences.due(name + ": look(4, 0)", x.look(4, 0), 0);
        sentences.due(name + ": look(5, 0)", x.look(5, 0), 55);
        sentences.due(name + ": look(5, 2)", x.look(5, 2), 2);
        sentences.due(name + ": look(6, 0)", x.look(6, 0), 0);
        sentences.due(name + ": block(5)", x.block(5), 0);
        sentences.due(name + ": block(7)", x.block(7), 0);
        sentences.due(name + ": receipt(0, 3)", x.receipt(0, 3), 0);
        sentences.due(name + ": total()", x.total(), 100165);
    }

    /** The same in the frame of the transaction itself: what it paid and its nonce stay. */
    private void undoneInATransaction() {
        sentences.by("by REVERT (output x) or when it FAILS (output 0) all that was done since its beginning, by it and by"
            + " frames inside, its value given included, is undone");
        for (int thing = 0; thing < THINGS.length; thing++) {
            for (int last = Words.REVERT; last <= 29; last += 2) {
                GasLedger x = new GasLedger();
                x.fund(0, 100000);
                x.fund(1, 100);
                x.fund(2, 10);
                x.preset(2, 6, 6);
                Words.load(x, 2, Words.join(THINGS[thing], Words.words(Words.push(9), last)));
                x.fund(5, 55);
                Words.load(x, 5, Words.push(6), Words.END);
                x.begin(1, 15);
                x.terms(700, 2, 0);
                int used = last == Words.REVERT ? 20 + COSTS[thing] + 1 : 700;
                String name = "thing " + thing + ", then " + last;
                sentences.due(name + ": pay", x.pay(0, 2, 40, 0), used);
                receiptDue(name, x, 0, used, last == Words.REVERT ? 9 : 0);
                undoneDue(name, x);
                sentences.due(name + ": look(0, 0)", x.look(0, 0), 100000 - 2 * used);
                sentences.due(name + ": look(0, 1)", x.look(0, 1), 1);
                sentences.due(name + ": look(15, 0)", x.look(15, 0), 2 * used);
            }
        }
    }

    private void gasIsNotUndone() {
        sentences.by("accounts that are to go; gas is not.");
        GasLedger x = ledger(Words.call(300, 2, 0, 0), Words.words(Words.GAS, Words.RETURN));
        Words.load(x, 2, Words.join(Words.store(0, 8), Words.call(100, 3, 0, 0), Words.words(Words.push(9), Words.REVERT)));
        Words.load(x, 3, 31);
        receiptDue("gas of a reverted frame and of a failed one inside", go(x, 600, 0, 0), 1,
            20 + 34 + 42 + 34 + 100 + 1 + 1, 600 - 232);
    }

    /** What was done before a frame began is not taken back with it. */
    private void whatWasDoneBeforeStays() {
        sentences.by("all that was done since its beginning, by it and by frames inside");
        for (int last = Words.REVERT; last <= 29; last += 2) {
            for (int thing = 0; thing < THINGS.length; thing++) {
                GasLedger x = new GasLedger();
                x.fund(0, 100000);
                x.fund(2, 10);
                x.preset(2, 6, 6);
                Words.load(x, 2, Words.join(THINGS[thing], Words.call(100, 7, 0, 0)));
                Words.load(x, 7, Words.join(Words.store(0, 1), Words.words(Words.push(1), Words.LOG, Words.push(0), last)));
                x.fund(5, 55);
                Words.load(x, 5, Words.push(6), Words.END);
                x.begin(1, 15);
                String name = "thing " + thing + ", then a frame that ends by " + last;
                int inner = last == Words.REVERT ? 42 + 13 + 1 : 100;
                int refund = thing == 3 ? 15 : 0;
                x.terms(600, 1, 0);
                sentences.due(name + ": pay", x.pay(0, 2, 0, 0), 20 + COSTS[thing] + 34 + inner - refund);
                int[] done = {x.look(4, 0), x.look(1, 2), x.slot(2, 0), x.slot(2, 6), x.block(7), x.look(5, 2)};
                for (int k = 0; k < done.length; k++) {
                    sentences.due(name + ", as to thing " + k, done[k], (k == thing ? IF_DONE : IF_NOT)[k]);
                }
                sentences.due(name + ": block(5)", x.block(5), thing == 4 ? LedgerModel.bloomOf(5) : 0);
                sentences.due(name + ": slot(7, 0)", x.slot(7, 0), 0);
            }
        }
    }

    private void endsWell() {
        sentences.by("A frame ENDS WELL by STOP (output 0), RETURN (output x) and END (output 0)");
        int[][] words = {Words.words(Words.INPUT, Words.STOP), Words.words(Words.INPUT), Words.words(Words.INPUT, Words.RETURN),
            Words.words(Words.INPUT, Words.REVERT), Words.words(Words.INPUT, Words.POP, Words.push(2), Words.END),
            Words.words(Words.INPUT, 29)};
        int[] used = {21, 21, 21, 21, 43, 100};
        int[] inputs = {0, 1, -1, LEAST, GREATEST};
        for (int input : inputs) {
            for (int k = 0; k < words.length; k++) {
                GasLedger x = go(ledger(words[k]), 100, 0, input);
                boolean well = k != 3 && k != 5;
                receiptDue("words " + k + " with " + input, x, well ? 1 : 0, used[k], k == 2 || k == 3 ? input : 0);
            }
        }
    }

    private void callersOfFrames() {
        sentences.by("SELF is t, the code that of t, the caller SELF, value v, input i");
        GasLedger x = new GasLedger();
        x.fund(15, 1000);
        x.fund(1, 10);
        int[] tell = Words.words(Words.SELF, Words.LOG, Words.CALLER, Words.LOG, Words.VALUE, Words.LOG);
        Words.load(x, 1, Words.join(tell, Words.call(500, 0, 0, 0), Words.delegate(500, 0, 0)));
        Words.load(x, 0, tell);
        x.begin(1, 9);
        x.terms(400, 1, 0);
        x.pay(15, 1, 6, 0);
        int[] seen = {1, 15, 6, 0, 1, 0, 1, 15, 6};
        for (int k = 0; k < seen.length; k++) {
            sentences.due("log(" + k + ", 1)", x.log(k, 1), seen[k]);
        }
        sentences.due("block(7)", x.block(7), seen.length);
    }

    /** An account created in a transaction can be called in it; one that is to go can still be called. */
    private void codeOfTheSameTransaction() {
        sentences.by("Else SELF gives v to t, and a frame runs: SELF is t, the code that of t");
        GasLedger x = ledger(Words.create(0, 11, 2), Words.words(Words.POP), Words.call(100, 2, 0, 0),
            Words.words(Words.RETURN, Words.push(44), Words.RETURN));
        go(x, 500, 0, 0);
        sentences.due("created and called: status", x.receipt(0, 0), 1);
        sentences.due("created and called: the flag", x.receipt(0, 2), 1);
        sentences.due("created and called: used gas", x.receipt(0, 1), 20 + 67 + 1 + 34 + 1);
        GasLedger y = ledger(Words.call(100, 2, 0, 1), Words.call(100, 2, 0, 0), TELL);
        Words.load(y, 2, Words.INPUT, Words.push(5), Words.JUMPIF, Words.push(44), Words.RETURN, Words.push(3), Words.END);
        sentences.due("to go and called: output", go(y, 500, 0, 0).receipt(0, 2), 1044);
        sentences.due("to go and called: look(2, 2)", y.look(2, 2), 0);
        // One that is to go is not empty yet, and no place to create.
        GasLedger z = ledger(Words.call(100, 0, 0, 1), Words.create(0, 0, 1), Words.words(Words.RETURN));
        Words.load(z, 0, Words.push(3), Words.END);
        sentences.due("to go is not empty: output", go(z, 500, 0, 0).receipt(0, 2), 2);
    }

    private void nonceOfACreator() {
        sentences.by("Else the nonce of SELF grows by 1");
        GasLedger x = ledger(Words.create(0, 0, 1), Words.create(101, 0, 1), Words.create(0, 0, 1));
        go(x, 500, 0, 0);
        sentences.due("two created, one not: look(1, 1)", x.look(1, 1), 2);
        sentences.due("two created, one not: look(0, 1)", x.look(0, 1), 1);
        sentences.due("two created, one not: look(2, 1)", x.look(2, 1), 1);
        sentences.due("two created, one not: look(3, 1)", x.look(3, 1), 1);
        sentences.due("two created, one not: look(4, 1)", x.look(4, 1), 0);
        GasLedger y = new GasLedger();
        y.fund(1, 1000);
        Words.load(y, 1, Words.create(0, 0, 1));
        y.begin(1, 9);
        y.send(1, 1, 0, 0);
        sentences.due("a sender that creates: look(1, 1)", y.look(1, 1), 2);
        sentences.due("its nonce is the sender's: pay", y.pay(1, 2, 0, 0), 20);
        sentences.due("its nonce is the sender's: look(1, 1)", y.look(1, 1), 3);
    }

    private void leastTransaction() {
        sentences.by("its USED gas is at first 20");
        receiptDue("a limit of 20, no word", go(ledger(), 20, 1, 0), 1, 20, 0);
        receiptDue("a limit of 20, a STOP", go(ledger(Words.words(Words.STOP)), 20, 1, 0), 1, 20, 0);
        receiptDue("a limit of 20, a word", go(ledger(Words.words(Words.SELF)), 20, 1, 0), 0, 20, 0);
        receiptDue("a limit of 21, a word", go(ledger(Words.words(Words.SELF)), 21, 1, 0), 1, 21, 0);
        receiptDue("a limit of 3000, no word", go(ledger(), 3000, 1, 0), 1, 20, 0);
        receiptDue("a limit of 3000, a failure", go(ledger(Words.words(31)), 3000, 1, 0), 0, 3000, 0);
    }

    private void nothingIsAdded() {
        sentences.by("then a frame runs as by a CALL from s with value v and gas l - 20 (nothing is added to this)");
        int[] values = {0, 1, 90000};
        for (int value : values) {
            GasLedger x = go(ledger(Words.words(Words.GAS, Words.RETURN)), 100, value, 0);
            receiptDue("a value of " + value, x, 1, 21, 79);
            GasLedger y = go(ledger(Words.repeat(5, Words.SELF)), 24, value, 0);
            receiptDue("a value of " + value + ", one gas too little", y, 0, 24, 0);
        }
    }

    private void whatIsTakenFirst() {
        sentences.by("l * p is taken from the balance of s, its nonce grows by 1");
        GasLedger x = new GasLedger();
        x.fund(0, 1000);
        Words.load(x, 1, Words.push(0), Words.BALANCE, Words.RETURN);
        x.begin(1, 15);
        x.terms(100, 9, 0);
        sentences.due("pay", x.pay(0, 1, 100, 0), 31);
        sentences.due("all is taken: output", x.receipt(0, 2), 0);
        sentences.due("what comes back: look(0, 0)", x.look(0, 0), 69 * 9);
        sentences.due("the miner's: look(15, 0)", x.look(15, 0), 31 * 9);
        sentences.due("look(0, 1)", x.look(0, 1), 1);
        GasLedger y = new GasLedger();
        y.fund(0, 1000);
        Words.load(y, 0, Words.push(0), Words.BALANCE, Words.RETURN);
        y.begin(1, 0);
        y.terms(100, 9, 0);
        y.pay(0, 0, 100, 0);
        sentences.due("sender, receiver and miner: output", y.receipt(0, 2), 100);
        sentences.due("sender, receiver and miner: look(0, 0)", y.look(0, 0), 1000);
    }

    /** Two slots are emptied for 44 with the 20, the REFUND is 30; then words follow for 1 each. */
    private static GasLedger emptying(int slots, int more) {
        GasLedger x = ledger();
        for (int k = 0; k < slots; k++) {
            x.preset(1, k, 1);
            Words.load(x, 1, Words.store(k, 0));
        }
        for (int k = 0; k < more; k++) {
            x.code(1, k % 2 == 0 ? Words.SELF : Words.POP);
        }
        return go(x, 300, 0, 0);
    }

    private void halfOfTheUsedGas() {
        sentences.by("GONE = half the gas used so far (l less what is left, without rest), but at most the REFUND");
        for (int more = 0; more <= 18; more++) {
            int soFar = 20 + 24 + more;
            int gone = Math.min(soFar / 2, 30);
            receiptDue("30 of " + soFar, emptying(2, more), 1, soFar - gone, 0);
        }
        receiptDue("30 of 59: 29", emptying(2, 15), 1, 30, 0);
        receiptDue("30 of 60: 30", emptying(2, 16), 1, 30, 0);
        receiptDue("30 of 61: 30", emptying(2, 17), 1, 31, 0);
        receiptDue("30 of 62: 30", emptying(2, 18), 1, 32, 0);
        receiptDue("15 of 32: 15", emptying(1, 0), 1, 17, 0);
        receiptDue("45 of 56: 28", emptying(3, 0), 1, 28, 0);
        receiptDue("45 of 57: 28", emptying(3, 1), 1, 29, 0);
        receiptDue("120 of 116: 58", emptying(8, 0), 1, 58, 0);
        GasLedger x = emptying(8, 0);
        sentences.due("120 of 116: look(0, 0)", x.look(0, 0), 100000 - 58);
        sentences.due("120 of 116: look(15, 0)", x.look(15, 0), 58);
        sentences.due("120 of 116: block(4)", x.block(4), 58);
    }

    private void noRefundAtTheBeginning() {
        sentences.by("REFUND is 0 and nothing is to go at the beginning of each transaction.");
        GasLedger x = emptying(2, 16);
        sentences.due("the first one", x.receipt(0, 1), 30);
        sentences.due("the second one empties nothing", x.send(0, 1, 0, 0), 60);
        sentences.due("another one", x.send(0, 2, 0, 0), 20);
        GasLedger failed = ledger(Words.store(0, 0), Words.words(Words.INPUT, Words.push(7), Words.JUMPIF, 31));
        failed.preset(1, 0, 1);
        failed.code(1, Words.STOP);
        go(failed, 100, 0, 0);
        sentences.due("a failed one", failed.receipt(0, 1), 100);
        sentences.due("one behind a failed one", failed.send(0, 2, 0, 0), 20);
        sentences.due("the same, well", failed.send(0, 1, 0, 1), 20 + 12 + 6 - 15);
    }

    private void nothingToGoAtTheBeginning() {
        sentences.by("REFUND is 0 and nothing is to go at the beginning of each transaction.");
        GasLedger x = go(ledger(Words.words(Words.push(2), Words.END)), 100, 0, 0);
        sentences.due("it went: look(1, 2)", x.look(1, 2), 0);
        sentences.due("it gets 9", x.send(0, 1, 9, 0), 20);
        sentences.due("it keeps them: look(1, 0)", x.look(1, 0), 9);
        x.terms(20, 0, 0);
        sentences.due("it sends one away", x.pay(1, 3, 1, 0), 20);
        sentences.due("its nonce is 1 again: look(1, 1)", x.look(1, 1), 1);
        sentences.due("it keeps the rest: look(1, 0)", x.look(1, 0), 8);
    }

    private void allOfAGoerGoes() {
        sentences.by("Then the accounts that are to go have balance, nonce and all slots 0 and no code.");
        for (int account = 0; account < 16; account += 5) {
            GasLedger x = new GasLedger();
            x.fund(7, 10000);
            x.fund(account, 100);
            for (int k = 0; k < 8; k++) {
                x.preset(account, k, k + 1);
                x.preset((account - 1) & 15, k, 7);
                x.preset((account + 1) & 15, k, 7);
            }
            Words.load(x, account, Words.join(Words.create(0, 0, 1), Words.words(Words.push(7), Words.END),
                Words.repeat(18, 5)));
            x.begin(1, 12);
            x.send(7, account, 3, 0);
            for (int what = 0; what < 4; what++) {
                sentences.due("look(" + account + ", " + what + ")", x.look(account, what), 0);
            }
            for (int k = 0; k < 8; k++) {
                sentences.due("slot(" + account + ", " + k + ")", x.slot(account, k), 0);
                sentences.due("the slots before it", x.slot((account - 1) & 15, k), 7);
                sentences.due("the slots behind it", x.slot((account + 1) & 15, k), 7);
            }
            for (int k = 0; k < 24; k++) {
                sentences.due("word(" + account + ", " + k + ")", x.word(account, k), 0);
            }
            sentences.due("the others' money", x.total(), 10100);
        }
    }

    private void goersGetTheirMoneyFirst() {
        sentences.by("s gets (l - used) * p back, the block's MINER gets used * p. Then the accounts that are to go have"
            + " balance, nonce and all slots 0 and no code.");
        GasLedger sender = new GasLedger();
        sender.fund(1, 1000);
        Words.load(sender, 1, Words.push(2), Words.END);
        sender.begin(1, 15);
        sender.send(1, 1, 0, 0);
        sentences.due("the sender goes: look(1, 4)", sender.look(1, 4), new GasLedger().look(1, 4));
        sentences.due("the sender goes: look(2, 0)", sender.look(2, 0), 800);
        sentences.due("the sender goes: look(15, 0)", sender.look(15, 0), 41);
        sentences.due("the sender goes: total()", sender.total(), 841);
        GasLedger miner = ledger(Words.words(Words.push(2), Words.END));
        miner.begin(1, 1);
        miner.send(0, 1, 0, 0);
        sentences.due("the miner goes: look(1, 0)", miner.look(1, 0), 0);
        sentences.due("the miner goes: look(2, 0)", miner.look(2, 0), 100);
        sentences.due("the miner goes: total()", miner.total(), 100100 - 41);
        sentences.due("the miner that went, sealed: seal(0)", miner.seal(0), 1);
        sentences.due("the miner that went, sealed: look(1, 0)", miner.look(1, 0), 50);
    }
}
