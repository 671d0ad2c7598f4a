/** What each operation costs, answers and fails on, one program in account 1 at a time. */
public final class OperationsTest {
    private static final int LIMIT = 3000;
    private static final int GREATEST = Integer.MAX_VALUE;
    private static final int LEAST = Integer.MIN_VALUE;
    private static final Checks checks = new Checks();

    public static void main(String[] args) {
        moving();
        reckoning();
        jumping();
        loading();
        storing();
        surroundings();
        logging();
        ending();
        tooFewNumbers();
        tooManyNumbers();
        unknown();
        checks.close();
    }

    private static GasLedger run(int limit, int value, int input, int... words) {
        GasLedger x = new GasLedger();
        x.fund(0, 100000);
        x.fund(1, 70);
        x.fund(5, 55);
        x.preset(1, 3, 33);
        Words.load(x, 1, words);
        x.begin(1, 15);
        x.terms(limit, 1, 0);
        x.pay(0, 1, value, input);
        return x;
    }

    private static void receiptDue(String name, GasLedger x, int status, int used, int output) {
        checks.due(name + ": status", x.receipt(0, 0), status);
        checks.due(name + ": used gas", x.receipt(0, 1), used);
        checks.due(name + ": output", x.receipt(0, 2), output);
    }

    /** Ends well with just as much gas as it uses, and fails with one less. */
    private static void well(String name, int input, int used, int output, int... words) {
        receiptDue(name, run(LIMIT, 0, input, words), 1, used, output);
        receiptDue(name + ", just enough gas", run(used, 0, input, words), 1, used, output);
        if (used > 20) {
            receiptDue(name + ", one gas too little", run(used - 1, 0, input, words), 0, used - 1, 0);
        }
    }

    private static void fails(String name, int input, int... words) {
        receiptDue(name, run(LIMIT, 0, input, words), 0, LIMIT, 0);
    }

    private static void moving() {
        well("no code", 0, 20, 0);
        well("STOP", 0, 20, 0, Words.STOP, 31);
        well("STOP with a number in it", 0, 20, 0, 99 << 5, 31);
        well("behind the last word", 0, 21, 0, Words.push(9));
        well("PUSH", 0, 21, 77, Words.push(77), Words.RETURN);
        well("PUSH below 0", 0, 21, -1, -31, Words.RETURN);
        well("PUSH the greatest", 0, 21, 67108863, Words.push(67108863), Words.RETURN);
        well("PUSH the least", 0, 21, -67108864, Words.push(-67108864), Words.RETURN);
        well("POP", 0, 23, 4, Words.push(4), Words.push(5), Words.POP, Words.RETURN);
        well("POP with a number in it", 0, 23, 4, Words.push(4), Words.push(5), Words.POP | 7 << 5, Words.RETURN);
        well("DUP 0", 0, 24, 10, Words.push(4), Words.push(5), Words.dup(0), Words.ADD, Words.RETURN);
        well("DUP 1", 0, 24, 9, Words.push(4), Words.push(5), Words.dup(1), Words.ADD, Words.RETURN);
        well("DUP leaves what it looks at", 0, 25, 4,
            Words.push(4), Words.push(5), Words.dup(1), Words.POP, Words.POP, Words.RETURN);
        fails("DUP of too deep a number", 0, Words.push(4), Words.push(5), Words.dup(2), Words.RETURN);
        fails("DUP -1", 0, Words.push(4), Words.push(5), Words.dup(-1), Words.RETURN);
        well("SWAP 1", 0, 24, 1, Words.push(4), Words.push(5), Words.swap(1), Words.SUB, Words.RETURN);
        well("SWAP 2, the top", 0, 24, 4,
            Words.push(4), Words.push(5), Words.push(6), Words.swap(2), Words.RETURN);
        well("SWAP 2, the middle", 0, 25, 5,
            Words.push(4), Words.push(5), Words.push(6), Words.swap(2), Words.POP, Words.RETURN);
        well("SWAP 2, the lowest", 0, 26, 6,
            Words.push(4), Words.push(5), Words.push(6), Words.swap(2), Words.POP, Words.POP, Words.RETURN);
        fails("SWAP 0", 0, Words.push(4), Words.push(5), Words.swap(0), Words.RETURN);
        fails("SWAP -1", 0, Words.push(4), Words.push(5), Words.swap(-1), Words.RETURN);
        fails("SWAP of too deep a number", 0, Words.push(4), Words.push(5), Words.swap(2), Words.RETURN);
    }

    /** INPUT is x, and y is pushed behind it. */
    private static void two(String name, int operation, int price, int x, int y, int result) {
        well(name + " " + x + ", " + y, x, 22 + price, result,
            Words.INPUT, Words.push(y), operation, Words.RETURN);
    }

    private static void reckoning() {
        two("ADD", Words.ADD, 1, 7, 5, 12);
        two("ADD", Words.ADD, 1, GREATEST, 1, LEAST);
        two("SUB", Words.SUB, 1, 7, 5, 2);
        two("SUB", Words.SUB, 1, LEAST, 1, GREATEST);
        two("MUL", Words.MUL, 2, 7, -5, -35);
        two("MUL", Words.MUL, 2, LEAST, -1, LEAST);
        two("MUL", Words.MUL, 2, 65536, 65536, 0);
        two("DIV", Words.DIV, 2, 7, 2, 3);
        two("DIV", Words.DIV, 2, -7, 2, -3);
        two("DIV", Words.DIV, 2, 7, 0, 0);
        two("DIV", Words.DIV, 2, LEAST, -1, LEAST);
        two("LESS", Words.LESS, 1, 4, 5, 1);
        two("LESS", Words.LESS, 1, 5, 5, 0);
        two("LESS", Words.LESS, 1, 5, 4, 0);
        two("LESS", Words.LESS, 1, LEAST, 1, 1);
        two("SAME", Words.SAME, 1, 5, 5, 1);
        two("SAME", Words.SAME, 1, 4, 5, 0);
        two("SAME", Words.SAME, 1, 5, 4, 0);
        well("NONE 0", 0, 22, 1, Words.INPUT, Words.NONE, Words.RETURN);
        well("NONE 1", 1, 22, 0, Words.INPUT, Words.NONE, Words.RETURN);
        well("NONE below 0", LEAST, 22, 0, Words.INPUT, Words.NONE, Words.RETURN);
    }

    private static void jumping() {
        well("JUMP", 0, 25, 8, Words.push(3), Words.JUMP, 31, Words.push(8), Words.RETURN);
        well("JUMP to the last word", 4, 24, 0, Words.INPUT, Words.JUMP, 31, 31, Words.STOP);
        receiptDue("JUMP to the first word", run(LIMIT, 0, 0, Words.join(
            Words.words(Words.push(3), Words.LOAD, Words.NONE, Words.push(11), Words.JUMPIF), Words.store(3, 0),
            Words.words(Words.push(0), Words.JUMP, 31, Words.STOP))), 1, 20 + 17 + 16 + 17 - 15, 0);
        fails("JUMP behind the last word", 3, Words.INPUT, Words.JUMP, Words.STOP);
        fails("JUMP below 0", -1, Words.INPUT, Words.JUMP, Words.STOP);
        fails("JUMP far", GREATEST, Words.INPUT, Words.JUMP, Words.STOP);
        fails("JUMP without end", 0, Words.INPUT, Words.JUMP);
        well("JUMPIF", -5, 27, 8, Words.INPUT, Words.push(4), Words.JUMPIF, 31, Words.push(8), Words.RETURN);
        well("JUMPIF 0", 0, 27, 6, Words.INPUT, Words.push(5), Words.JUMPIF, Words.push(6), Words.RETURN, 31);
        well("JUMPIF 0 to no place", 0, 27, 6, Words.INPUT, Words.push(5), Words.JUMPIF, Words.push(6), Words.RETURN);
        fails("JUMPIF behind the last word", 1, Words.INPUT, Words.push(5), Words.JUMPIF, Words.push(6), Words.RETURN);
        fails("JUMPIF below 0", 1, Words.INPUT, Words.push(-1), Words.JUMPIF, Words.push(6), Words.RETURN);
    }

    private static void loading() {
        well("LOAD", 3, 31, 33, Words.INPUT, Words.LOAD, Words.RETURN);
        well("LOAD of a slot that is 0", 7, 31, 0, Words.INPUT, Words.LOAD, Words.RETURN);
        well("LOAD 8", 8, 31, 0, Words.INPUT, Words.LOAD, Words.RETURN);
        well("LOAD -1", -1, 31, 0, Words.INPUT, Words.LOAD, Words.RETURN);
        well("LOAD of the neighbour's slot", -5, 31, 0, Words.INPUT, Words.LOAD, Words.RETURN);
    }

    private static void storing() {
        well("STORE where 0 was", 0, 62, 0, Words.store(0, 9));
        well("STORE 0 where 0 was", 0, 32, 0, Words.store(7, 0));
        well("STORE another number", 0, 32, 0, Words.store(3, 34));
        well("STORE, then LOAD", 0, 73, 9,
            Words.join(Words.store(7, 9), Words.words(Words.push(7), Words.LOAD, Words.RETURN)));
        well("STORE twice", 0, 74, 0, Words.join(Words.store(0, 9), Words.store(0, 8)));
        fails("STORE 8", 0, Words.store(8, 0));
        fails("STORE -1", 0, Words.store(-1, 0));
        GasLedger x = run(LIMIT, 0, 0, Words.join(Words.store(0, 9), Words.store(7, -2)));
        checks.due("STORE: slot(1, 0)", x.slot(1, 0), 9);
        checks.due("STORE: slot(1, 7)", x.slot(1, 7), -2);
        checks.due("STORE: slot(1, 3)", x.slot(1, 3), 33);
        receiptDue("STORE 0 gives 15 back", run(LIMIT, 0, 0, Words.store(3, 0)), 1, 32 - 15, 0);
        receiptDue("STORE 0 twice gives 15 back once",
            run(LIMIT, 0, 0, Words.join(Words.store(3, 0), Words.store(3, 0))), 1, 44 - 15, 0);
        receiptDue("a slot filled and emptied gives 15 back",
            run(LIMIT, 0, 0, Words.join(Words.store(0, 1), Words.store(0, 0))), 1, 74 - 15, 0);
        receiptDue("the gas that is given back is needed first", run(31, 0, 0, Words.store(3, 0)), 0, 31, 0);
        refundIsAtMostHalf();
    }

    private static void refundIsAtMostHalf() {
        GasLedger x = new GasLedger();
        x.fund(0, 1000);
        x.preset(1, 0, 1);
        x.preset(1, 1, 1);
        x.preset(1, 2, 1);
        x.preset(1, 3, 1);
        Words.load(x, 1, Words.join(Words.store(0, 0), Words.store(1, 0), Words.store(2, 0), Words.store(3, 0),
            Words.words(Words.push(0))));
        x.begin(1, 15);
        checks.due("69 used, 60 to give back: send", x.send(0, 1, 0, 0), 69 - 34);
        checks.due("69 used, 60 to give back: look(0, 0)", x.look(0, 0), 1000 - 35);
        checks.due("69 used, 60 to give back: look(15, 0)", x.look(15, 0), 35);
        checks.due("69 used, 60 to give back: block(4)", x.block(4), 35);
        checks.due("the next one has no refund: send", x.send(0, 1, 0, 0), 69);
    }

    private static void surroundings() {
        well("BALANCE", 5, 31, 55, Words.INPUT, Words.BALANCE, Words.RETURN);
        well("BALANCE of an empty account", 14, 31, 0, Words.INPUT, Words.BALANCE, Words.RETURN);
        well("BALANCE 16", 16, 31, 0, Words.INPUT, Words.BALANCE, Words.RETURN);
        well("BALANCE -1", -1, 31, 0, Words.INPUT, Words.BALANCE, Words.RETURN);
        well("SELF", 0, 21, 1, Words.SELF, Words.RETURN);
        well("CALLER", 0, 21, 0, Words.CALLER, Words.RETURN);
        well("INPUT", LEAST, 21, LEAST, Words.INPUT, Words.RETURN);
        receiptDue("VALUE", run(LIMIT, 45, 0, Words.VALUE, Words.RETURN), 1, 21, 45);
        receiptDue("BALANCE has the value", run(LIMIT, 45, 1, Words.INPUT, Words.BALANCE, Words.RETURN), 1, 31, 115);
        receiptDue("BALANCE of the sender", run(LIMIT, 45, 0, Words.INPUT, Words.BALANCE, Words.RETURN),
            1, 31, 100000 - LIMIT - 45);
        receiptDue("GAS", run(LIMIT, 0, 0, Words.GAS, Words.RETURN), 1, 21, LIMIT - 21);
        receiptDue("GAS, the last", run(21, 0, 0, Words.GAS, Words.RETURN), 1, 21, 0);
        receiptDue("the value adds no gas", run(100, 45, 0, Words.GAS, Words.RETURN), 1, 21, 79);
    }

    private static void logging() {
        well("LOG", 3, 33, 0, Words.INPUT, Words.LOG);
        GasLedger x = run(LIMIT, 0, -9, Words.INPUT, Words.LOG, Words.push(40), Words.LOG);
        checks.due("LOG: log(0, 0)", x.log(0, 0), 1);
        checks.due("LOG: log(0, 1)", x.log(0, 1), -9);
        checks.due("LOG: log(1, 1)", x.log(1, 1), 40);
        checks.due("LOG: receipt(0, 3)", x.receipt(0, 3), 2);
    }

    private static void ending() {
        well("RETURN", 6, 21, 6, Words.INPUT, Words.RETURN, 31);
        GasLedger x = run(LIMIT, 0, 0, Words.join(Words.store(0, 9), Words.words(Words.push(7), Words.REVERT, 31)));
        receiptDue("REVERT", x, 0, 63, 7);
        checks.due("REVERT: slot(1, 0)", x.slot(1, 0), 0);
        well("END", 2, 41, 0, Words.INPUT, Words.END, 31);
        well("END to itself", 1, 41, 0, Words.INPUT, Words.END, 31);
        fails("END to 16", 16, Words.INPUT, Words.END);
        fails("END to -1", -1, Words.INPUT, Words.END);
    }

    private static void tooFewNumbers() {
        int[] needs = {0, 0, 1, 1, 2, 2, 2, 2, 2, 2, 2, 1, 1, 2, 1, 2, 1, 0, 0, 0, 0, 0, 4, 3, 3, 1, 1, 1, 1};
        for (int operation = 0; operation < needs.length; operation++) {
            int word = operation == 4 ? Words.swap(1) : operation;
            boolean jumps = operation == Words.JUMP || operation == Words.JUMPIF;
            if (!jumps && operation != Words.REVERT) {
                int status = run(LIMIT, 0, 0, ones(needs[operation], word)).receipt(0, 0);
                checks.due("enough numbers for operation " + operation, status, 1);
            }
            if (needs[operation] > 0) {
                fails("one number too few for operation " + operation, 0, ones(needs[operation] - 1, word));
            }
        }
    }

    /** So many numbers 1, then a word. */
    private static int[] ones(int count, int word) {
        int[] words = new int[count + 1];
        for (int k = 0; k < count; k++) {
            words[k] = Words.push(1);
        }
        words[count] = word;
        return words;
    }

    private static void tooManyNumbers() {
        int[] pushing = {Words.push(1), Words.dup(0), Words.SELF, Words.CALLER, Words.VALUE, Words.INPUT, Words.GAS};
        for (int word : pushing) {
            well("a twelfth number by " + word, 0, 32, 0, ones(11, word));
            fails("a thirteenth number by " + word, 0, ones(12, word));
        }
        well("DUP of the lowest of eleven", 0, 32, 0, ones(11, Words.dup(10)));
        well("SWAP with the lowest of twelve", 0, 33, 0, ones(12, Words.swap(11)));
        fails("SWAP below the lowest of twelve", 0, ones(12, Words.swap(12)));
        fails("SWAP 0 on twelve numbers", 0, ones(12, Words.swap(0)));
        fails("DUP -1 on eleven numbers", 0, ones(11, Words.dup(-1)));
        int[] others = {Words.POP, Words.ADD, Words.NONE, Words.LOAD, Words.BALANCE, Words.CALL, Words.DELEGATE,
            Words.CREATE};
        for (int word : others) {
            checks.due("twelve numbers, then " + word, run(LIMIT, 0, 0, ones(12, word)).receipt(0, 0), 1);
        }
    }

    private static void unknown() {
        for (int operation = 29; operation < 32; operation++) {
            fails("operation " + operation, 0, operation);
            fails("operation " + operation + " on numbers", 0, ones(4, operation));
            fails("operation " + operation + " on twelve numbers", 0, ones(12, operation));
            fails("operation " + operation + " with a number in it", 0, operation - 64);
        }
    }
}
