/** CALL, DELEGATE, CREATE, END, and what is undone when a frame does not end well. */
public final class FramesTest {
    private static final Checks checks = new Checks();

    public static void main(String[] args) {
        whatACalledFrameSees();
        gasOfACall();
        callsThatRunNothing();
        outputsAndFlags();
        whatADelegateSees();
        gasOfADelegate();
        eightFrames();
        innerFrameIsUndone();
        outerFrameUndoesInner();
        valueOfATransactionIsUndone();
        creating();
        creatingFails();
        creatingByADelegate();
        creatingWithNoEmptyAccount();
        goersAndTheirHeirs();
        goersUntilTheEnd();
        goersThatAreUndone();
        whatWasDoneBeforeStays();
        accountNought();
        codeWrittenOverInARejectedBlock();
        checks.close();
    }

    /** A ledger with 100000 in account 0, 100 in account 1, and a program there. */
    private static GasLedger ledger(int[]... parts) {
        GasLedger x = new GasLedger();
        x.fund(0, 100000);
        x.fund(1, 100);
        Words.load(x, 1, Words.join(parts));
        return x;
    }

    /** Begins a block and sends a transaction from account 0 to account 1. */
    private static int go(GasLedger x, int limit, int value, int input) {
        x.begin(1, 15);
        x.terms(limit, 1, 0);
        return x.pay(0, 1, value, input);
    }

    private static final int[] SHOW_ALL = Words.join(
        Words.words(Words.SELF), Words.keep(0), Words.words(Words.CALLER), Words.keep(1),
        Words.words(Words.VALUE), Words.keep(2), Words.words(Words.INPUT), Words.keep(3),
        Words.words(Words.GAS), Words.keep(4));

    private static void whatACalledFrameSees() {
        GasLedger x = ledger(Words.call(900, 2, 30, 77));
        Words.load(x, 2, SHOW_ALL);
        // 20 + 4 pushes + 50 + five words of 1 + five stores of 41, less the 10 that the callee got.
        checks.due("a call: pay", go(x, 3000, 5, 8), 20 + 4 + 50 + 5 + 5 * 41 - 10);
        checks.due("a call: SELF", x.slot(2, 0), 2);
        checks.due("a call: CALLER", x.slot(2, 1), 1);
        checks.due("a call: VALUE", x.slot(2, 2), 30);
        checks.due("a call: INPUT", x.slot(2, 3), 77);
        checks.due("a call: GAS", x.slot(2, 4), 910 - 4 * 42 - 1);
        checks.due("a call: the caller's slots", x.look(1, 3), 0);
        checks.due("a call: look(1, 0)", x.look(1, 0), 75);
        checks.due("a call: look(2, 0)", x.look(2, 0), 30);
    }

    /** Calls account 2, which answers its gas, and puts the answer and the flag into slots 0 and 1. */
    private static GasLedger askForGas(int gas, int value, int limit) {
        GasLedger x = ledger(Words.call(gas, 2, value, 0), Words.keep(1), Words.keep(0));
        Words.load(x, 2, Words.GAS, Words.RETURN);
        go(x, limit, 0, 0);
        return x;
    }

    private static void gasOfACall() {
        GasLedger x = askForGas(50, 0, 3000);
        checks.due("50 gas: slot(1, 0)", x.slot(1, 0), 49);
        checks.due("50 gas: slot(1, 1)", x.slot(1, 1), 1);
        checks.due("50 gas: used", x.receipt(0, 1), 20 + 34 + 1 + 82);
        x = askForGas(50, 7, 3000);
        checks.due("50 gas and a value: slot(1, 0)", x.slot(1, 0), 59);
        checks.due("50 gas and a value: used", x.receipt(0, 1), 20 + 54 + 1 - 10 + 82);
        x = askForGas(-1, 7, 3000);
        checks.due("-1 gas and a value: slot(1, 0)", x.slot(1, 0), 9);
        x = askForGas(-1, 0, 3000);
        checks.due("-1 gas: slot(1, 0)", x.slot(1, 0), 0);
        checks.due("-1 gas: slot(1, 1)", x.slot(1, 1), 0);
        checks.due("-1 gas: used", x.receipt(0, 1), 20 + 34 + 22);
        x = askForGas(2999, 0, 200);
        checks.due("all gas: slot(1, 0)", x.slot(1, 0), 200 - 20 - 34 - 1);
        checks.due("all gas: used", x.receipt(0, 1), 20 + 34 + 1 + 82);
        x = askForGas(2999, 7, 200);
        checks.due("all gas and a value: slot(1, 0)", x.slot(1, 0), 200 - 20 - 54 + 10 - 1);
        GasLedger y = ledger(Words.call(100, 2, 7, 0));
        Words.load(y, 2, 31);
        checks.due("a failing frame has no gas left: pay", go(y, 3000, 0, 0), 20 + 54 + 100);
        y = ledger(Words.call(100, 2, 7, 0));
        checks.due("a frame with no code: pay", go(y, 3000, 0, 0), 20 + 54 - 10);
    }

    /** The two numbers that a call pushes are put into slots 1 (the flag) and 0, which were 5. */
    private static void runsNothing(String name, int gas, int to, int value) {
        GasLedger x = ledger(Words.call(gas, to, value, 0), Words.keep(1), Words.keep(0));
        x.preset(1, 0, 5);
        x.preset(1, 1, 5);
        int giving = value != 0 ? 20 : 0;
        // Two slots emptied give 30 back.
        checks.due(name + ": pay", go(x, 3000, 0, 0), 20 + 34 + giving + 22 - 30);
        checks.due(name + ": slot(1, 0)", x.slot(1, 0), 0);
        checks.due(name + ": slot(1, 1)", x.slot(1, 1), 0);
        checks.due(name + ": look(1, 0)", x.look(1, 0), 100);
        checks.due(name + ": receipt(0, 0)", x.receipt(0, 0), 1);
    }

    private static void callsThatRunNothing() {
        runsNothing("CALL of 16", 50, 16, 0);
        runsNothing("CALL of -1", 50, -1, 0);
        runsNothing("CALL with more than the balance", 50, 2, 101);
        GasLedger x = ledger(Words.call(50, 2, 100, 0), Words.keep(1));
        go(x, 3000, 0, 0);
        checks.due("CALL with the whole balance: slot(1, 1)", x.slot(1, 1), 1);
        checks.due("CALL with the whole balance: look(2, 0)", x.look(2, 0), 100);
        x = ledger(Words.call(50, 2, -1, 0));
        checks.due("CALL with a value below 0: pay", go(x, 400, 0, 0), 400);
        checks.due("CALL with a value below 0: receipt(0, 0)", x.receipt(0, 0), 0);
        x = ledger(Words.delegate(50, 16, 0), Words.keep(1), Words.keep(0));
        x.preset(1, 0, 5);
        x.preset(1, 1, 5);
        checks.due("DELEGATE to 16: pay", go(x, 3000, 0, 0), 20 + 33 + 22 - 30);
        x = ledger(Words.delegate(50, -1, 0), Words.keep(1), Words.keep(0));
        x.preset(1, 0, 5);
        x.preset(1, 1, 5);
        checks.due("DELEGATE to -1: pay", go(x, 3000, 0, 0), 20 + 33 + 22 - 30);
        x = ledger(Words.join(Words.words(Words.INPUT, Words.push(4), Words.JUMPIF, Words.STOP),
            Words.call(500, 1, 60, 0), Words.keep(1)));
        go(x, 3000, 0, 1);
        checks.due("CALL of itself with a value: slot(1, 1)", x.slot(1, 1), 1);
        checks.due("CALL of itself with a value: look(1, 0)", x.look(1, 0), 100);
    }

    private static void outputDue(String name, int output, int flag, int... callee) {
        GasLedger x = ledger(Words.call(500, 2, 0, 0), Words.keep(1), Words.keep(0));
        Words.load(x, 2, callee);
        go(x, 3000, 0, 0);
        checks.due(name + ": output", x.slot(1, 0), output);
        checks.due(name + ": flag", x.slot(1, 1), flag);
        checks.due(name + ": receipt(0, 0)", x.receipt(0, 0), 1);
        checks.due(name + ": receipt(0, 2)", x.receipt(0, 2), 0);
    }

    private static void outputsAndFlags() {
        outputDue("inner RETURN", 9, 1, Words.push(9), Words.RETURN);
        outputDue("inner STOP", 0, 1, Words.push(9), Words.STOP);
        outputDue("inner REVERT", 9, 0, Words.push(9), Words.REVERT);
        outputDue("inner failure", 0, 0, Words.push(9), 31);
        outputDue("inner END", 0, 1, Words.push(9), Words.END);
    }

    private static void whatADelegateSees() {
        GasLedger x = ledger(Words.delegate(900, 2, 77));
        Words.load(x, 2, SHOW_ALL);
        checks.due("a delegate: pay", go(x, 3000, 5, 8), 20 + 3 + 30 + 5 + 4 * 41 + 11);
        checks.due("a delegate: SELF", x.slot(1, 0), 1);
        checks.due("a delegate: CALLER", x.slot(1, 1), 0);
        checks.due("a delegate: VALUE", x.slot(1, 2), 5);
        checks.due("a delegate: INPUT", x.slot(1, 3), 77);
        checks.due("a delegate: GAS", x.slot(1, 4), 900 - 3 * 42 - 12 - 1);
        checks.due("a delegate: the other's slots", x.look(2, 3), 0);
        checks.due("a delegate: look(1, 0)", x.look(1, 0), 105);
        checks.due("a delegate: look(2, 0)", x.look(2, 0), 0);
        GasLedger y = ledger(Words.delegate(900, 2, 4));
        Words.load(y, 2, Words.INPUT, Words.LOG, Words.push(6), Words.JUMP, 31, 31, Words.push(3), Words.END);
        go(y, 3000, 0, 0);
        checks.due("a delegate jumps in its own code: receipt(0, 0)", y.receipt(0, 0), 1);
        checks.due("a delegate logs as the other: log(0, 0)", y.log(0, 0), 1);
        checks.due("a delegate ends the other: look(1, 0)", y.look(1, 0), 0);
        checks.due("a delegate ends the other: look(3, 0)", y.look(3, 0), 100);
        checks.due("a delegate ends the other: look(2, 2)", y.look(2, 2), 8);
    }

    private static GasLedger delegateForGas(int gas, int limit) {
        GasLedger x = ledger(Words.delegate(gas, 2, 0), Words.keep(1), Words.keep(0));
        Words.load(x, 2, Words.GAS, Words.RETURN);
        go(x, limit, 3, 0);
        return x;
    }

    private static void gasOfADelegate() {
        checks.due("DELEGATE with 50 gas", delegateForGas(50, 3000).slot(1, 0), 49);
        checks.due("DELEGATE with 50 gas: used", delegateForGas(50, 3000).receipt(0, 1), 20 + 33 + 1 + 82);
        checks.due("DELEGATE with -1 gas: flag", delegateForGas(-1, 3000).slot(1, 1), 0);
        checks.due("DELEGATE with all gas", delegateForGas(2999, 200).slot(1, 0), 200 - 20 - 33 - 1);
    }

    /** Counts in slot 0, then does it again inside, with all gas. */
    private static void eightFrames() {
        int[] count = Words.words(Words.push(0), Words.LOAD, Words.push(1), Words.ADD, Words.push(0), Words.STORE);
        GasLedger x = ledger(count, Words.call(2999, 1, 0, 0), Words.words(Words.LOG, Words.RETURN));
        go(x, 3000, 0, 0);
        checks.due("CALL in one another: slot(1, 0)", x.slot(1, 0), 8);
        checks.due("CALL in one another: receipt(0, 0)", x.receipt(0, 0), 1);
        checks.due("CALL in one another: block(7)", x.block(7), 8);
        checks.due("the ninth frame: log(0, 1)", x.log(0, 1), 0);
        checks.due("the eighth frame: log(1, 1)", x.log(1, 1), 1);
        checks.due("the second frame: log(7, 1)", x.log(7, 1), 1);
        x = ledger(count, Words.delegate(2999, 1, 0), Words.words(Words.LOG, Words.RETURN));
        go(x, 3000, 0, 0);
        checks.due("DELEGATE in one another: slot(1, 0)", x.slot(1, 0), 8);
        checks.due("DELEGATE in one another: log(0, 1)", x.log(0, 1), 0);
        checks.due("DELEGATE in one another: log(1, 1)", x.log(1, 1), 1);
    }

    /** Account 2 stores, clears, logs, creates, gives and ends, and then does what the last words say. */
    private static GasLedger manyChanges(int... lastWords) {
        GasLedger x = ledger(Words.words(Words.push(70), Words.LOG), Words.call(600, 2, 30, 0), Words.keep(1),
            Words.words(Words.push(71), Words.LOG));
        x.fund(2, 10);
        x.preset(2, 6, 6);
        Words.load(x, 2, Words.join(Words.store(5, 1), Words.store(6, 0), Words.words(Words.push(7), Words.LOG),
            Words.create(3, 0, 2), Words.call(0, 4, 2, 0), lastWords));
        return x;
    }

    private static void innerFrameIsUndone() {
        GasLedger good = manyChanges(Words.push(9), Words.END);
        go(good, 3000, 0, 0);
        checks.due("ended well: slot(1, 1)", good.slot(1, 1), 1);
        checks.due("ended well: look(2, 0)", good.look(2, 0), 0);
        checks.due("ended well: look(9, 0)", good.look(9, 0), 35);
        checks.due("ended well: look(3, 0)", good.look(3, 0), 3);
        checks.due("ended well: look(3, 2)", good.look(3, 2), 2);
        checks.due("ended well: look(4, 0)", good.look(4, 0), 2);
        checks.due("ended well: block(7)", good.block(7), 3);
        GasLedger reverted = manyChanges(Words.push(9), Words.REVERT);
        int innerGas = 42 + 12 + 13 + 67 + (4 + 50 - 10) + 1;
        undoneDue("REVERT", reverted, go(reverted, 3000, 0, 0), 600 - innerGas);
        GasLedger failed = manyChanges(31);
        undoneDue("a failure", failed, go(failed, 3000, 0, 0), 0);
    }

    private static void undoneDue(String name, GasLedger x, int used, int left) {
        // The inner frame's slot that was emptied gives nothing back; slot 1 of account 1 stays 0.
        int outer = 20 + 13 + 54 + 600 + 1 + 10 + 13;
        int stipend = left == 0 ? 0 : 10;
        checks.due(name + ": pay", used, outer - left - stipend);
        checks.due(name + ": receipt(0, 0)", x.receipt(0, 0), 1);
        checks.due(name + ": slot(1, 1)", x.slot(1, 1), 0);
        checks.due(name + ": look(1, 0)", x.look(1, 0), 100);
        checks.due(name + ": look(2, 0)", x.look(2, 0), 10);
        checks.due(name + ": look(2, 1)", x.look(2, 1), 0);
        checks.due(name + ": slot(2, 5)", x.slot(2, 5), 0);
        checks.due(name + ": slot(2, 6)", x.slot(2, 6), 6);
        checks.due(name + ": look(3, 1)", x.look(3, 1), 0);
        checks.due(name + ": look(3, 2)", x.look(3, 2), 0);
        checks.due(name + ": word(3, 0)", x.word(3, 0), 0);
        checks.due(name + ": look(4, 0)", x.look(4, 0), 0);
        checks.due(name + ": block(7)", x.block(7), 2);
        checks.due(name + ": receipt(0, 3)", x.receipt(0, 3), 2);
        checks.due(name + ": log(0, 1)", x.log(0, 1), 70);
        checks.due(name + ": log(1, 1)", x.log(1, 1), 71);
        checks.due(name + ": log(2, 1)", x.log(2, 1), -1);
        checks.due(name + ": block(5)", x.block(5), LedgerModel.bloomOf(70) | LedgerModel.bloomOf(71));
        checks.due(name + ": total()", x.total(), 100110);
    }

    private static void outerFrameUndoesInner() {
        GasLedger x = ledger(Words.call(300, 2, 5, 0), Words.words(Words.push(8), Words.REVERT));
        Words.load(x, 2, Words.join(Words.store(0, 1), Words.words(Words.push(3), Words.LOG)));
        go(x, 3000, 40, 0);
        checks.due("outer REVERT: receipt(0, 0)", x.receipt(0, 0), 0);
        checks.due("outer REVERT: receipt(0, 1)", x.receipt(0, 1), 20 + 54 + 42 + 13 - 10 + 1);
        checks.due("outer REVERT: receipt(0, 2)", x.receipt(0, 2), 8);
        checks.due("outer REVERT: receipt(0, 3)", x.receipt(0, 3), 0);
        checks.due("outer REVERT: slot(2, 0)", x.slot(2, 0), 0);
        checks.due("outer REVERT: look(2, 0)", x.look(2, 0), 0);
        checks.due("outer REVERT: block(7)", x.block(7), 0);
        checks.due("outer REVERT: block(5)", x.block(5), 0);
    }

    private static void valueOfATransactionIsUndone() {
        GasLedger x = ledger(Words.words(31));
        checks.due("a failing transaction: pay", go(x, 300, 40, 0), 300);
        checks.due("a failing transaction: look(0, 0)", x.look(0, 0), 100000 - 300);
        checks.due("a failing transaction: look(0, 1)", x.look(0, 1), 1);
        checks.due("a failing transaction: look(1, 0)", x.look(1, 0), 100);
        checks.due("a failing transaction: look(15, 0)", x.look(15, 0), 300);
        checks.due("a failing transaction: receipt(0, 2)", x.receipt(0, 2), 0);
        x = ledger(Words.join(Words.store(3, 0), Words.words(Words.push(2), Words.REVERT)));
        x.preset(1, 3, 33);
        checks.due("a reverted refund: pay", go(x, 300, 40, 0), 20 + 12 + 1);
    }

    private static void creating() {
        GasLedger x = ledger(Words.create(40, 6, 3), Words.keep(0), Words.words(Words.VALUE), Words.keep(7));
        x.fund(2, 1);
        x.preset(3, 0, 1);
        x.code(4, 0);
        checks.due("CREATE: pay", go(x, 3000, 0, 0), 20 + 3 + 66 + 41 + 12);
        checks.due("CREATE: slot(1, 0)", x.slot(1, 0), 5);
        checks.due("CREATE: look(5, 0)", x.look(5, 0), 40);
        checks.due("CREATE: look(5, 1)", x.look(5, 1), 1);
        checks.due("CREATE: look(5, 2)", x.look(5, 2), 3);
        checks.due("CREATE: word(5, 0)", x.word(5, 0), Words.VALUE);
        checks.due("CREATE: word(5, 2)", x.word(5, 2), Words.STORE);
        checks.due("CREATE: look(1, 0)", x.look(1, 0), 60);
        checks.due("CREATE: look(1, 1)", x.look(1, 1), 1);
        checks.due("the created account: send", x.send(0, 5, 6, 0), 20 + 42);
        checks.due("the created account: slot(5, 7)", x.slot(5, 7), 6);
        checks.due("a second one: send", x.send(0, 1, 0, 0), 20 + 3 + 66 + 1 + 10 + 12);
        checks.due("a second one: slot(1, 0)", x.slot(1, 0), 6);
        checks.due("a third one, too dear: send", x.send(0, 1, 0, 0), 20 + 3 + 66 + 1 + 10 + 12);
        checks.due("a third one, too dear: slot(1, 0)", x.slot(1, 0), -1);
        checks.due("a third one, too dear: look(1, 1)", x.look(1, 1), 2);
        checks.due("a third one, too dear: look(7, 1)", x.look(7, 1), 0);
    }

    private static void createDue(String name, int value, int place, int number, int status) {
        GasLedger x = ledger(Words.create(value, place, number), Words.words(Words.RETURN));
        int used = go(x, 500, 0, 0);
        checks.due(name + ": receipt(0, 0)", x.receipt(0, 0), status);
        checks.due(name + ": pay", used, status == 0 ? 500 : 20 + 3 + 60 + 2 * number);
        checks.due(name + ": look(2, 2)", x.look(2, 2), status == 0 ? 0 : number);
    }

    private static void creatingFails() {
        createDue("CREATE of all words", 0, 0, 5, 1);
        createDue("CREATE of the last word", 0, 4, 1, 1);
        createDue("CREATE with the whole balance", 100, 1, 2, 1);
        createDue("CREATE of a word too many", 0, 0, 6, 0);
        createDue("CREATE of a word behind the last", 0, 4, 2, 0);
        createDue("CREATE from behind the last", 0, 5, 1, 0);
        createDue("CREATE from below 0", 0, -1, 2, 0);
        createDue("CREATE of no word", 0, 0, 0, 0);
        createDue("CREATE of fewer than no word", 0, 3, -1, 0);
        createDue("CREATE with a value below 0", -1, 0, 1, 0);
        GasLedger x = ledger(Words.words(Words.INPUT, Words.dup(0), Words.push(0), Words.CREATE));
        go(x, 500, 0, Integer.MAX_VALUE);
        checks.due("CREATE of the greatest number from the greatest place", x.receipt(0, 0), 0);
        int[] full = new int[20];
        x = ledger(Words.create(0, 0, 24), full);
        checks.due("CREATE of 24 words: pay", go(x, 131, 0, 0), 20 + 3 + 60 + 48);
        checks.due("CREATE of 24 words: look(2, 2)", x.look(2, 2), 24);
        x = ledger(Words.create(0, 0, 24), full);
        go(x, 130, 0, 0);
        checks.due("CREATE of 24 words with too little gas", x.receipt(0, 0), 0);
    }

    private static void creatingByADelegate() {
        GasLedger x = ledger(Words.delegate(500, 2, 0));
        Words.load(x, 2, Words.STOP);
        checks.due("a delegate that stops: pay", go(x, 3000, 0, 0), 53);
        GasLedger y = ledger(Words.delegate(500, 2, 0));
        Words.load(y, 2, Words.join(Words.create(7, 4, 2), Words.words(Words.POP, Words.push(1234))));
        go(y, 3000, 0, 0);
        checks.due("a delegate creates: look(3, 2)", y.look(3, 2), 2);
        checks.due("a delegate creates of its own code: word(3, 1)", y.word(3, 1), Words.push(1234));
        checks.due("a delegate creates: look(3, 0)", y.look(3, 0), 7);
        checks.due("a delegate creates: look(1, 0)", y.look(1, 0), 93);
        checks.due("a delegate creates: look(1, 1)", y.look(1, 1), 1);
        checks.due("a delegate creates: look(2, 1)", y.look(2, 1), 0);
    }

    private static void creatingWithNoEmptyAccount() {
        GasLedger x = ledger(Words.create(0, 0, 1), Words.words(Words.RETURN));
        for (int account = 2; account < 15; account++) {
            x.fund(account, 1);
        }
        go(x, 500, 0, 0);
        checks.due("the miner is the last empty one: receipt(0, 2)", x.receipt(0, 2), 15);
        checks.due("the miner is the last empty one: look(15, 2)", x.look(15, 2), 1);
        x.send(0, 1, 0, 0);
        checks.due("no empty one: receipt(1, 0)", x.receipt(1, 0), 1);
        checks.due("no empty one: receipt(1, 1)", x.receipt(1, 1), 20 + 3 + 62);
        checks.due("no empty one: receipt(1, 2)", x.receipt(1, 2), -1);
        checks.due("no empty one: look(1, 1)", x.look(1, 1), 1);
    }

    private static void goersAndTheirHeirs() {
        GasLedger x = ledger(Words.words(Words.INPUT, Words.END));
        x.preset(1, 2, 2);
        int before = x.root();
        go(x, 300, 5, 4);
        checks.due("END: look(4, 0)", x.look(4, 0), 105);
        checks.due("END: look(1, 0)", x.look(1, 0), 0);
        checks.due("END: look(1, 2)", x.look(1, 2), 0);
        checks.due("END: slot(1, 2)", x.slot(1, 2), 0);
        checks.due("END: word(1, 0)", x.word(1, 0), 0);
        checks.due("END: total()", x.total(), 100100);
        x.seal(1);
        checks.due("END in a rejected block: root()", x.root(), before);
        checks.due("END in a rejected block: word(1, 1)", x.word(1, 1), Words.END);
        x.begin(2, 1);
        x.terms(300, 1, 0);
        x.pay(0, 1, 5, 1);
        checks.due("END to itself, being the miner: look(1, 0)", x.look(1, 0), 0);
        checks.due("END to itself, being the miner: total()", x.total(), 100000 - 5 - 41);
        x.seal(0);
        checks.due("the miner that went: look(1, 0)", x.look(1, 0), 50);
        GasLedger y = ledger(Words.words(Words.INPUT, Words.END));
        y.fund(1, 1000);
        y.begin(1, 15);
        y.send(1, 1, 3, 2);
        checks.due("END of the sender: look(1, 0)", y.look(1, 0), 0);
        checks.due("END of the sender: look(1, 1)", y.look(1, 1), 0);
        checks.due("END of the sender: look(2, 0)", y.look(2, 0), 900);
        checks.due("END of the sender: look(15, 0)", y.look(15, 0), 41);
        checks.due("END of the sender: total()", y.total(), 100000 + 941);
    }

    /** Account 2 ends, is called again in the same transaction, and gets money that goes with it. */
    private static void goersUntilTheEnd() {
        GasLedger x = ledger(Words.call(200, 2, 10, 3), Words.call(200, 2, 20, 4), Words.call(0, 3, 1, 0));
        Words.load(x, 2, Words.INPUT, Words.dup(0), Words.LOG, Words.END);
        go(x, 3000, 0, 0);
        checks.due("ended twice: block(7)", x.block(7), 2);
        checks.due("ended twice: look(3, 0)", x.look(3, 0), 11);
        checks.due("ended twice: look(4, 0)", x.look(4, 0), 20);
        checks.due("ended twice: look(2, 2)", x.look(2, 2), 0);
        x = ledger(Words.call(200, 2, 10, 0), Words.call(200, 2, 20, 1));
        Words.load(x, 2, Words.INPUT, Words.push(5), Words.JUMPIF, Words.push(3), Words.END, Words.STOP);
        go(x, 3000, 0, 0);
        checks.due("given to one that is to go: look(2, 0)", x.look(2, 0), 0);
        checks.due("given to one that is to go: look(1, 0)", x.look(1, 0), 70);
        checks.due("given to one that is to go: total()", x.total(), 100080);
        x.send(0, 2, 9, 0);
        checks.due("the next transaction: look(2, 0)", x.look(2, 0), 9);
    }

    private static void goersThatAreUndone() {
        GasLedger x = ledger(Words.call(400, 2, 0, 0), Words.store(0, 1));
        x.fund(3, 6);
        Words.load(x, 2, Words.join(Words.call(100, 3, 0, 0), Words.words(Words.push(0), Words.REVERT)));
        Words.load(x, 3, Words.push(4), Words.END);
        go(x, 3000, 0, 0);
        checks.due("END undone: slot(1, 0)", x.slot(1, 0), 1);
        checks.due("END undone: look(3, 0)", x.look(3, 0), 6);
        checks.due("END undone: look(3, 2)", x.look(3, 2), 2);
        checks.due("END undone: look(4, 0)", x.look(4, 0), 0);
    }

    /** A failing frame takes back nothing that was done before it began. */
    private static void whatWasDoneBeforeStays() {
        GasLedger x = ledger(Words.store(3, 0), Words.call(100, 2, 0, 0), Words.call(100, 4, 0, 0));
        x.preset(1, 3, 33);
        Words.load(x, 2, Words.push(3), Words.END);
        x.fund(2, 5);
        Words.load(x, 4, Words.push(1), Words.LOG, 31);
        checks.due("before a failure: pay", go(x, 3000, 0, 0), 20 + 12 + 34 + 21 + 34 + 100 - 15);
        checks.due("before a failure: slot(1, 3)", x.slot(1, 3), 0);
        checks.due("before a failure: look(2, 2)", x.look(2, 2), 0);
        checks.due("before a failure: look(3, 0)", x.look(3, 0), 5);
        GasLedger y = ledger(Words.call(100, 2, 0, 0), Words.call(100, 3, 0, 0), Words.keep(0), Words.keep(1));
        Words.load(y, 2, Words.push(7), Words.push(8), Words.STOP);
        Words.load(y, 3, Words.ADD, Words.RETURN);
        go(y, 3000, 0, 0);
        checks.due("a frame's stack is empty at first: slot(1, 0)", y.slot(1, 0), 0);
    }

    private static void accountNought() {
        GasLedger x = new GasLedger();
        x.fund(7, 10000);
        Words.load(x, 6, Words.join(Words.create(0, 5, 7), Words.words(Words.STOP), Words.store(0, 4),
            Words.store(7, 5), Words.words(Words.STOP)));
        x.begin(1, 9);
        x.send(7, 6, 0, 0);
        checks.due("account 0 is created: look(0, 2)", x.look(0, 2), 7);
        x.send(7, 0, 3, 0);
        checks.due("account 0 runs: slot(0, 0)", x.slot(0, 0), 4);
        checks.due("account 0 runs: slot(0, 7)", x.slot(0, 7), 5);
        GasLedger y = new GasLedger();
        y.fund(7, 10000);
        y.preset(0, 0, 1);
        y.preset(0, 7, 1);
        y.preset(1, 0, 1);
        Words.load(y, 0, Words.push(7), Words.END);
        y.begin(1, 9);
        y.send(7, 0, 3, 0);
        checks.due("account 0 goes: look(0, 2)", y.look(0, 2), 0);
        checks.due("account 0 goes: slot(0, 0)", y.slot(0, 0), 0);
        checks.due("account 0 goes: slot(0, 7)", y.slot(0, 7), 0);
        checks.due("account 0 goes: slot(1, 0)", y.slot(1, 0), 1);
        checks.due("account 0 goes: look(7, 0)", y.look(7, 0), 10000 - 41);
    }

    /** Account 1 goes, and account 2 creates another one there. */
    private static void codeWrittenOverInARejectedBlock() {
        GasLedger x = ledger(Words.words(Words.push(5), Words.END));
        Words.load(x, 2, Words.create(0, 0, 4));
        int root = x.root();
        go(x, 300, 0, 0);
        x.send(0, 2, 0, 0);
        checks.due("created where one went: look(1, 2)", x.look(1, 2), 4);
        checks.due("created where one went: word(1, 0)", x.word(1, 0), Words.push(4));
        x.seal(1);
        checks.due("then rejected: look(1, 2)", x.look(1, 2), 2);
        checks.due("then rejected: word(1, 0)", x.word(1, 0), Words.push(5));
        checks.due("then rejected: root()", x.root(), root);
    }
}
