/** The boundary cases of words that a frame does alone: the stack, the gas, places, slots, accounts. */
public final class ProgramBoundariesTest {
    private static final int GREATEST = Integer.MAX_VALUE;
    private static final int LEAST = Integer.MIN_VALUE;
    /** The least and the greatest number that a word can have in it. */
    private static final int LEAST_A = -67108864;
    private static final int GREATEST_A = 67108863;
    private static final int LIMIT = 1000;

    private final Sentences sentences = new Sentences();

    private ProgramBoundariesTest() throws Exception {
    }

    public static void main(String[] args) throws Exception {
        ProgramBoundariesTest test = new ProgramBoundariesTest();
        test.wordsAndTheirNumbers();
        test.stackAtEachHeight();
        test.stackIsEmptyAtFirst();
        test.depthsOfDup();
        test.depthsOfSwap();
        test.gasOfEachWord();
        test.wordsThatCostNothing();
        test.gasLeft();
        test.sumsThatWrap();
        test.quotients();
        test.comparisons();
        test.placesOfJump();
        test.placesOfJumpIf();
        test.behindTheLastWord();
        test.slotsOfLoad();
        test.slotsOfStore();
        test.pricesOfStore();
        test.refundOfStore();
        test.accountsOfBalance();
        test.wordsThatFail();
        test.jumpWithoutAPlace();
        test.theTopFirst();
        test.pricesKnownBeforePopping();
        test.logsOfSelf();
        test.sentences.close();
    }

    /** A program in account 1, between two neighbours whose slots and words it must not reach. */
    private static GasLedger run(int limit, int input, int... words) {
        GasLedger x = new GasLedger();
        x.fund(0, 100000);
        x.fund(1, 70);
        x.fund(15, 1515);
        x.preset(0, 7, 77);
        x.preset(2, 0, 20);
        x.preset(1, 0, 10);
        x.preset(1, 7, 17);
        Words.load(x, 0, Words.words(Words.STOP, Words.STOP));
        Words.load(x, 2, Words.words(Words.STOP, Words.STOP));
        Words.load(x, 1, words);
        x.begin(1, 14);
        x.terms(limit, 1, 0);
        x.pay(0, 1, 0, input);
        return x;
    }

    private void receiptDue(String name, GasLedger x, int status, int used, int output) {
        sentences.due(name + ": status", x.receipt(0, 0), status);
        sentences.due(name + ": used gas", x.receipt(0, 1), used);
        sentences.due(name + ": output", x.receipt(0, 2), output);
    }

    private void well(String name, int input, int used, int output, int... words) {
        receiptDue(name, run(LIMIT, input, words), 1, used, output);
    }

    /** All gas is gone, and all that was done is undone. */
    private void fails(String name, int input, int... words) {
        GasLedger x = run(LIMIT, input, words);
        receiptDue(name, x, 0, LIMIT, 0);
        sentences.due(name + ": look(1, 0)", x.look(1, 0), 70);
        sentences.due(name + ": slot(1, 0)", x.slot(1, 0), 10);
        sentences.due(name + ": slot(1, 7)", x.slot(1, 7), 17);
        sentences.due(name + ": look(0, 0)", x.look(0, 0), 100000 - LIMIT);
        sentences.due(name + ": look(0, 1)", x.look(0, 1), 1);
    }

    /** So many numbers on the stack, then some words. */
    private static int[] onNumbers(int count, int number, int... words) {
        return Words.join(Words.repeat(count, Words.push(number)), words);
    }

    private void wordsAndTheirNumbers() {
        sentences.by("A word w is the operation w & 31 with a = w >> 5.");
        well("PUSH 0", 0, 21, 0, 1, Words.RETURN);
        well("PUSH 1", 0, 21, 1, 33, Words.RETURN);
        well("PUSH -1", 0, 21, -1, -31, Words.RETURN);
        well("PUSH the greatest", 0, 21, GREATEST_A, GREATEST - 30, Words.RETURN);
        well("PUSH the least", 0, 21, LEAST_A, LEAST + 1, Words.RETURN);
        well("a RETURN with the greatest number in it", 0, 21, 5, Words.push(5), GREATEST - 31 + Words.RETURN);
        well("a RETURN with the least number in it", 0, 21, 5, Words.push(5), LEAST + Words.RETURN);
        well("the least word is a STOP", 0, 20, 0, LEAST, 31);
        fails("the greatest word fails", 0, GREATEST);
        fails("the word -1 fails", 0, -1);
    }

    /** How many numbers an operation pops or looks at, and how many it leaves in their place. */
    private static final int[] POPS = {
        0, 0, 1, 1, 2, 2, 2, 2, 2, 2, 2, 1, 1, 2, 1, 2, 1, 0, 0, 0, 0, 0, 4, 3, 3, 1, 1, 1, 1};
    private static final int[] PUSHES = {
        0, 1, 0, 2, 2, 1, 1, 1, 1, 1, 1, 1, 0, 0, 1, 0, 1, 1, 1, 1, 1, 1, 2, 2, 1, 0, 0, 0, 0};

    private static boolean ends(int operation) {
        return operation == Words.STOP || operation == Words.RETURN || operation == Words.END;
    }

    /** Each operation on 0 .. 12 numbers, and then just as many numbers more as there is room for, or one more. */
    private void stackAtEachHeight() {
        sentences.by("fewer numbers are there than it pops or looks at, a number too many would be pushed");
        for (int operation = 0; operation < POPS.length; operation++) {
            for (int height = 0; height <= 12; height++) {
                if (operation != Words.REVERT) {
                    heightDue(operation, height);
                }
            }
        }
    }

    private void heightDue(int operation, int height) {
        boolean jumps = operation == Words.JUMP || operation == Words.JUMPIF;
        int number = jumps ? height + 1 : 1;
        int word = operation == 4 ? Words.swap(1) : operation;
        int left = height - POPS[operation] + PUSHES[operation];
        String name = "operation " + operation + " on " + height + " numbers";
        if (height < POPS[operation] || left > 12) {
            fails(name, 0, onNumbers(height, number, word, Words.STOP));
            return;
        }
        sentences.due(name, run(LIMIT, 0, onNumbers(height, number, word, Words.STOP)).receipt(0, 0), 1);
        if (!ends(operation)) {
            int[] full = onNumbers(12 - left, 1);
            int[] tooFull = onNumbers(13 - left, 1);
            int[] words = onNumbers(height, number, word);
            sentences.due(name + ", then full", run(LIMIT, 0, Words.join(words, full)).receipt(0, 0), 1);
            fails(name + ", then one too many", 0, Words.join(words, tooFull));
        }
    }

    private void stackIsEmptyAtFirst() {
        sentences.by("a stack of at most 12 numbers, empty at first");
        fails("POP first", 0, Words.POP);
        fails("RETURN first", 5, Words.RETURN);
        fails("REVERT first", 5, Words.REVERT);
        GasLedger x = run(LIMIT, 0, onNumbers(12, 3));
        receiptDue("twelve numbers", x, 1, 32, 0);
        x.send(0, 1, 0, 0);
        sentences.due("twelve numbers once more: status", x.receipt(1, 0), 1);
        x = new GasLedger();
        x.fund(0, 1000);
        Words.load(x, 1, Words.join(onNumbers(7, 3), Words.call(90, 2, 0, 0), Words.words(Words.STOP)));
        Words.load(x, 2, onNumbers(12, 3, Words.RETURN));
        Words.load(x, 3, Words.join(onNumbers(7, 3), Words.call(90, 4, 0, 0), Words.words(Words.RETURN)));
        Words.load(x, 4, Words.POP);
        x.begin(1, 9);
        x.send(0, 1, 0, 0);
        sentences.due("twelve numbers inside: used gas", x.receipt(0, 1), 20 + 7 + 34 + 12);
        x.send(0, 3, 0, 0);
        sentences.due("the outer's numbers are not the inner's: output", x.receipt(1, 2), 0);
        sentences.due("the outer's numbers are not the inner's: used gas", x.receipt(1, 1), 20 + 7 + 34 + 90);
    }

    private void depthsOfDup() {
        sentences.by("the number a below the top once more (0: the top; fails if a is less than 0)");
        for (int height = 1; height <= 11; height++) {
            int[] words = new int[height];
            for (int k = 0; k < height; k++) {
                words[k] = Words.push(100 + k);
            }
            for (int a = 0; a < height; a++) {
                well("DUP " + a + " on " + height, 0, 21 + height, 99 + height - a,
                    Words.join(words, Words.words(Words.dup(a), Words.RETURN)));
            }
            fails("DUP " + height + " on " + height, 0, Words.join(words, Words.words(Words.dup(height), Words.RETURN)));
            fails("DUP -1 on " + height, 0, Words.join(words, Words.words(Words.dup(-1), Words.RETURN)));
        }
        fails("DUP 0 on none", 0, Words.dup(0), Words.RETURN);
        fails("DUP the least", 0, Words.push(1), Words.dup(LEAST_A), Words.RETURN);
        fails("DUP the greatest", 0, Words.push(1), Words.dup(GREATEST_A), Words.RETURN);
        fails("DUP 11 on 12", 0, onNumbers(12, 1, Words.dup(11)));
    }

    private void depthsOfSwap() {
        sentences.by("the top and the number a below it change places (fails if a is less than 1)");
        for (int height = 1; height <= 12; height++) {
            int[] words = new int[height];
            for (int k = 0; k < height; k++) {
                words[k] = Words.push(100 + k);
            }
            for (int a = 1; a < height; a++) {
                well("SWAP " + a + " on " + height, 0, 21 + height, 99 + height - a,
                    Words.join(words, Words.words(Words.swap(a), Words.RETURN)));
            }
            int[] tooDeep = {height, 0, -1};
            for (int a : tooDeep) {
                fails("SWAP " + a + " on " + height, 0, Words.join(words, Words.words(Words.swap(a), Words.RETURN)));
            }
        }
        fails("SWAP 1 on none", 0, Words.swap(1), Words.RETURN);
        fails("SWAP the least", 0, Words.push(1), Words.push(1), Words.swap(LEAST_A), Words.RETURN);
        fails("SWAP the greatest", 0, Words.push(1), Words.push(1), Words.swap(GREATEST_A), Words.RETURN);
        well("the number changed with the top lies where it was", 0, 20 + 12 + 1 + 10, 12,
            Words.join(Words.words(Words.push(1), Words.push(2)), onNumbers(9, 5), Words.words(Words.push(12), Words.swap(10)),
                Words.repeat(10, Words.POP), Words.words(Words.RETURN)));
    }

    /** With just the price a word is done; with one less, and with none, it fails. */
    private void price(String name, int price, int... words) {
        // All words but the last one push, for 1 each.
        int enough = 20 + words.length - 1 + price;
        GasLedger x = run(enough, 0, words);
        sentences.due(name + ", just the price: status", x.receipt(0, 0), 1);
        GasLedger more = run(enough + 1, 0, words);
        sentences.due(name + ", one more: status", more.receipt(0, 0), 1);
        sentences.due(name + ", one more: the same used gas", more.receipt(0, 1), x.receipt(0, 1));
        receiptDue(name + ", one less", run(enough - 1, 0, words), 0, enough - 1, 0);
        receiptDue(name + ", no gas for it", run(enough - price, 0, words), 0, enough - price, 0);
    }

    private void gasOfEachWord() {
        sentences.by("It FAILS, if the gas is less than the price");
        int[] ones = {Words.push(5), Words.SELF, Words.CALLER, Words.VALUE, Words.INPUT, Words.GAS};
        for (int word : ones) {
            price("word " + word, 1, word);
        }
        price("POP", 1, Words.push(1), Words.POP);
        price("DUP", 1, Words.push(1), Words.dup(0));
        price("SWAP", 1, Words.push(1), Words.push(2), Words.swap(1));
        price("ADD", 1, Words.push(1), Words.push(2), Words.ADD);
        price("SUB", 1, Words.push(1), Words.push(2), Words.SUB);
        price("MUL", 2, Words.push(1), Words.push(2), Words.MUL);
        price("DIV", 2, Words.push(1), Words.push(2), Words.DIV);
        price("DIV by 0", 2, Words.push(1), Words.push(0), Words.DIV);
        price("LESS", 1, Words.push(1), Words.push(2), Words.LESS);
        price("SAME", 1, Words.push(1), Words.push(2), Words.SAME);
        price("NONE", 1, Words.push(1), Words.NONE);
        price("JUMPIF 0", 4, Words.push(0), Words.push(9), Words.JUMPIF);
        price("LOAD", 10, Words.push(0), Words.LOAD);
        price("LOAD of none", 10, Words.push(8), Words.LOAD);
        price("BALANCE", 10, Words.push(0), Words.BALANCE);
        price("BALANCE of none", 10, Words.push(16), Words.BALANCE);
        sentences.by("22 CALL [30, and 20 more if the value is not 0]");
        price("CALL for 0", 30, Words.call(0, 2, 0, 0));
        price("CALL for 1", 50, Words.call(0, 2, 1, 0));
        price("CALL of none", 30, Words.call(0, 16, 0, 0));
        price("CALL of none for 1", 50, Words.call(0, 16, 1, 0));
        price("CALL for more than there is", 50, Words.call(0, 2, 71, 0));
        price("CALL for all that there is", 50, Words.call(0, 2, 70, 0));
        sentences.by("23 DELEGATE [30] pops g, t, i");
        price("DELEGATE", 30, Words.delegate(0, 2, 0));
        price("DELEGATE to none", 30, Words.delegate(0, 16, 0));
        sentences.by("24 CREATE [60, and 2 more a word]");
        price("CREATE of 1 word", 62, Words.create(0, 0, 1));
        price("CREATE of 2 words", 64, Words.create(0, 0, 2));
        price("CREATE of 4 words for 70", 68, Words.create(70, 0, 4));
        price("CREATE for more than there is", 62, Words.create(71, 0, 1));
        sentences.by("It FAILS, if the gas is less than the price");
        price("LOG", 12, Words.push(1), Words.LOG);
        price("END", 20, Words.push(1), Words.END);
        int[] jump = Words.words(Words.push(2), Words.JUMP, Words.STOP);
        receiptDue("JUMP, just the price", run(24, 0, jump), 1, 24, 0);
        receiptDue("JUMP, one less", run(23, 0, jump), 0, 23, 0);
        int[] jumpIf = Words.words(Words.push(1), Words.push(3), Words.JUMPIF, Words.STOP);
        receiptDue("JUMPIF, just the price", run(26, 0, jumpIf), 1, 26, 0);
        receiptDue("JUMPIF, one less", run(25, 0, jumpIf), 0, 25, 0);
    }

    private void wordsThatCostNothing() {
        sentences.by("26 RETURN [0] pops x 27 REVERT [0] pops x");
        receiptDue("STOP with no gas", run(20, 0, Words.STOP), 1, 20, 0);
        receiptDue("no word with no gas", run(20, 0), 1, 20, 0);
        receiptDue("PUSH with no gas", run(20, 0, Words.push(4)), 0, 20, 0);
        receiptDue("STOP with no gas left", run(21, 0, Words.push(4), Words.STOP), 1, 21, 0);
        receiptDue("RETURN with no gas left", run(21, 0, Words.push(4), Words.RETURN), 1, 21, 4);
        receiptDue("REVERT with no gas left", run(21, 0, Words.push(4), Words.REVERT), 0, 21, 4);
        receiptDue("REVERT with gas left", run(300, 0, Words.push(4), Words.REVERT), 0, 21, 4);
        receiptDue("a failure with no gas left", run(21, 0, Words.push(4), 31), 0, 21, 0);
    }

    private void gasLeft() {
        sentences.by("the gas left behind its own price");
        receiptDue("GAS of 1", run(21, 0, Words.GAS, Words.RETURN), 1, 21, 0);
        receiptDue("GAS of 2", run(22, 0, Words.GAS, Words.RETURN), 1, 21, 1);
        receiptDue("GAS of 2980", run(3000, 0, Words.GAS, Words.RETURN), 1, 21, 2979);
        receiptDue("GAS twice", run(30, 0, Words.GAS, Words.GAS, Words.RETURN), 1, 22, 8);
    }

    private void two(String name, int operation, int used, int x, int y, int result) {
        well(name + " " + x + ", " + y, x, used, result, Words.INPUT, Words.push(y), operation, Words.RETURN);
    }

    private void sumsThatWrap() {
        sentences.by("All numbers are ints that wrap where nothing else is said.");
        two("ADD", Words.ADD, 23, GREATEST - 1, 1, GREATEST);
        two("ADD", Words.ADD, 23, GREATEST, 1, LEAST);
        two("ADD", Words.ADD, 23, LEAST + 1, -1, LEAST);
        two("ADD", Words.ADD, 23, LEAST, -1, GREATEST);
        two("SUB", Words.SUB, 23, LEAST + 1, 1, LEAST);
        two("SUB", Words.SUB, 23, LEAST, 1, GREATEST);
        two("SUB", Words.SUB, 23, GREATEST - 1, -1, GREATEST);
        two("SUB", Words.SUB, 23, GREATEST, -1, LEAST);
        two("SUB", Words.SUB, 23, 3, 5, -2);
        two("MUL", Words.MUL, 24, 1 << 30, 1, 1 << 30);
        two("MUL", Words.MUL, 24, 1 << 30, 2, LEAST);
        two("MUL", Words.MUL, 24, 1 << 30, 4, 0);
        two("MUL", Words.MUL, 24, GREATEST, 2, -2);
        two("MUL", Words.MUL, 24, LEAST, -1, LEAST);
        well("MUL of the greatest with itself", GREATEST, 24, 1, Words.INPUT, Words.dup(0), Words.MUL, Words.RETURN);
    }

    private void quotients() {
        sentences.by("8 DIV [2] x / y, 0 if y is 0 (the least number / -1 is itself)");
        two("DIV", Words.DIV, 24, LEAST, -1, LEAST);
        two("DIV", Words.DIV, 24, LEAST + 1, -1, GREATEST);
        two("DIV", Words.DIV, 24, LEAST, 1, LEAST);
        two("DIV", Words.DIV, 24, LEAST, -2, 1 << 30);
        two("DIV", Words.DIV, 24, LEAST, 0, 0);
        two("DIV", Words.DIV, 24, GREATEST, 0, 0);
        two("DIV", Words.DIV, 24, 0, 0, 0);
        two("DIV", Words.DIV, 24, 0, -1, 0);
        two("DIV", Words.DIV, 24, 7, 2, 3);
        two("DIV", Words.DIV, 24, -7, 2, -3);
        two("DIV", Words.DIV, 24, 7, -2, -3);
        two("DIV", Words.DIV, 24, -7, -2, 3);
        two("DIV", Words.DIV, 24, 1, 2, 0);
    }

    private void comparisons() {
        sentences.by("9 LESS 1 if x < y, else 0 10 SAME 1 if x = y, else 0 11 NONE pops x: 1 if x is 0, else 0");
        two("LESS", Words.LESS, 23, 4, 5, 1);
        two("LESS", Words.LESS, 23, 5, 5, 0);
        two("LESS", Words.LESS, 23, 6, 5, 0);
        two("LESS", Words.LESS, 23, LEAST, GREATEST_A, 1);
        two("LESS", Words.LESS, 23, GREATEST, LEAST_A, 0);
        two("LESS", Words.LESS, 23, -1, 0, 1);
        two("SAME", Words.SAME, 23, 5, 5, 1);
        two("SAME", Words.SAME, 23, 4, 5, 0);
        two("SAME", Words.SAME, 23, 6, 5, 0);
        two("SAME", Words.SAME, 23, LEAST, 0, 0);
        two("SAME", Words.SAME, 23, -1, -1, 1);
        int[] numbers = {-1, 0, 1, LEAST, GREATEST};
        for (int x : numbers) {
            well("NONE " + x, x, 22, x == 0 ? 1 : 0, Words.INPUT, Words.NONE, Words.RETURN);
        }
    }

    private void placesOfJump() {
        sentences.by("12 JUMP [3] pops the place; fails if it is not one of the code's words");
        int[] words = Words.words(Words.INPUT, Words.JUMP, 31, Words.push(8), Words.RETURN, Words.STOP);
        well("JUMP to a word", 3, 25, 8, words);
        well("JUMP to the last word", 5, 24, 0, words);
        int[] places = {6, 7, 24, -1, -2, LEAST, GREATEST};
        for (int place : places) {
            fails("JUMP to " + place + " of 6 words", place, words);
        }
        int[] full = onNumbers(24, 9);
        full[0] = Words.INPUT;
        full[1] = Words.JUMP;
        full[23] = Words.STOP;
        well("JUMP to the last of 24 words", 23, 24, 0, full);
        fails("JUMP behind 24 words", 24, full);
        // 20 and ten rounds of 4 are 60: with no gas left the INPUT fails.
        receiptDue("JUMP to the first word", run(60, 0, Words.INPUT, Words.JUMP), 0, 60, 0);
        well("JUMP to the first word once", 0, 20 + 17 + 18 + 17 - 15, 0, Words.join(
            Words.words(Words.push(0), Words.LOAD, Words.NONE, Words.push(12), Words.JUMPIF), Words.store(0, 0),
            Words.words(Words.INPUT, Words.POP, Words.push(0), Words.JUMP, Words.STOP)));
    }

    private void placesOfJumpIf() {
        sentences.by("13 JUMPIF [4] pops the place, then x; if x is not 0, as JUMP");
        int[] xs = {1, -1, LEAST, GREATEST};
        int[] noPlaces = {5, 6, -1, LEAST_A, GREATEST_A};
        for (int x : xs) {
            well("JUMPIF " + x, x, 26, 0, Words.INPUT, Words.push(4), Words.JUMPIF, 31, Words.STOP);
            well("JUMPIF " + x + " to the first word behind it", x, 26, 0, Words.INPUT, Words.push(3), Words.JUMPIF,
                Words.STOP, 31);
            for (int place : noPlaces) {
                fails("JUMPIF " + x + " to " + place, x, Words.INPUT, Words.push(place), Words.JUMPIF, Words.STOP,
                    Words.STOP);
            }
        }
        well("JUMPIF 0", 0, 26, 0, Words.INPUT, Words.push(4), Words.JUMPIF, Words.STOP, 31);
        for (int place : noPlaces) {
            well("JUMPIF 0 to " + place, 0, 26, 0, Words.INPUT, Words.push(place), Words.JUMPIF, Words.STOP, 31);
        }
    }

    private void behindTheLastWord() {
        sentences.by("Behind the last word it is as with STOP.");
        well("no word", 0, 20, 0);
        well("one word", 0, 21, 0, Words.push(7));
        well("24 words", 0, 44, 0, Words.join(onNumbers(12, 1), Words.repeat(12, Words.POP)));
        GasLedger x = run(LIMIT, 0, Words.store(0, 5));
        receiptDue("a STORE at the end", x, 1, 32, 0);
        sentences.due("a STORE at the end: slot(1, 0)", x.slot(1, 0), 5);
        well("a JUMPIF at the end", 0, 26, 0, Words.INPUT, Words.push(0), Words.JUMPIF);
    }

    private void slotsOfLoad() {
        sentences.by("14 LOAD [10] pops k: slot k of SELF, 0 if there is none");
        int[][] slots = {{-1, 0}, {0, 10}, {1, 0}, {6, 0}, {7, 17}, {8, 0}, {-8, 0}, {15, 0}, {LEAST, 0}, {GREATEST, 0}};
        for (int[] slot : slots) {
            well("LOAD " + slot[0], slot[0], 31, slot[1], Words.INPUT, Words.LOAD, Words.RETURN);
        }
    }

    private void slotsOfStore() {
        sentences.by("15 STORE pops k, then v; fails if there is no slot k; slot k of SELF becomes v");
        int[] noSlots = {-1, 8, -8, 9, LEAST, GREATEST};
        for (int k : noSlots) {
            fails("STORE " + k, k, Words.push(5), Words.INPUT, Words.STORE, Words.STOP);
            fails("STORE 0 in " + k, k, Words.push(0), Words.INPUT, Words.STORE, Words.STOP);
            GasLedger x = run(LIMIT, k, Words.push(5), Words.INPUT, Words.STORE, Words.STOP);
            sentences.due("STORE " + k + ": slot(0, 7)", x.slot(0, 7), 77);
            sentences.due("STORE " + k + ": slot(2, 0)", x.slot(2, 0), 20);
        }
        for (int k = 0; k < 8; k++) {
            GasLedger x = run(LIMIT, k, Words.push(-5), Words.INPUT, Words.STORE, Words.STOP);
            for (int other = 0; other < 8; other++) {
                int before = other == 0 ? 10 : other == 7 ? 17 : 0;
                sentences.due("STORE " + k + ": slot(1, " + other + ")", x.slot(1, other), other == k ? -5 : before);
            }
        }
    }

    private void pricesOfStore() {
        sentences.by("[40] if it was 0 and v is not, else [10]");
        price("0 becomes 1", 40, Words.store(1, 1));
        price("0 becomes -1", 40, Words.store(6, -1));
        price("0 becomes 0", 10, Words.store(1, 0));
        price("10 becomes 0", 10, Words.store(0, 0));
        price("10 becomes 11", 10, Words.store(0, 11));
        price("10 becomes 10", 10, Words.store(0, 10));
        price("17 becomes -17", 10, Words.store(7, -17));
        well("0 becomes 1, then 2", 0, 20 + 42 + 12, 0, Words.join(Words.store(1, 1), Words.store(1, 2)));
        well("10 becomes 0, then 1", 0, 20 + 12 + 42 - 15, 0, Words.join(Words.store(0, 0), Words.store(0, 1)));
    }

    private void refundOfStore() {
        sentences.by("15 are added to the REFUND if it was not 0 and v is");
        well("10 becomes 0", 0, 32 - 15, 0, Words.store(0, 0));
        well("10 becomes 1", 0, 32, 0, Words.store(0, 1));
        well("0 becomes 0", 0, 32, 0, Words.store(1, 0));
        well("0 becomes 1", 0, 62, 0, Words.store(1, 1));
        well("10 becomes 0, then 0", 0, 44 - 15, 0, Words.join(Words.store(0, 0), Words.store(0, 0)));
        well("0 becomes 1, then 0", 0, 74 - 15, 0, Words.join(Words.store(1, 1), Words.store(1, 0)));
        well("10 becomes 0, then 1, then 0", 0, 86 - 30, 0,
            Words.join(Words.store(0, 0), Words.store(0, 1), Words.store(0, 0)));
        fails("10 becomes 0, then a failure", 0, Words.join(Words.store(0, 0), Words.words(29)));
    }

    private void accountsOfBalance() {
        sentences.by("16 BALANCE [10] pops an account: its balance, 0 if there is none");
        int[][] balances = {{-1, 0}, {0, 100000 - LIMIT}, {1, 70}, {2, 0}, {14, 0}, {15, 1515}, {16, 0}, {17, 0},
            {-16, 0}, {LEAST, 0}, {GREATEST, 0}};
        for (int[] balance : balances) {
            well("BALANCE " + balance[0], balance[0], 31, balance[1], Words.INPUT, Words.BALANCE, Words.RETURN);
        }
    }

    private void wordsThatFail() {
        sentences.by("29 to 31 fail.");
        int[] numbers = {0, 1, -1, GREATEST_A, LEAST_A};
        for (int operation = 29; operation <= 31; operation++) {
            for (int a : numbers) {
                fails("operation " + operation + " with " + a, 0, a << 5 | operation);
            }
            for (int height = 0; height <= 12; height++) {
                fails("operation " + operation + " on " + height, 0, onNumbers(height, 1, operation));
            }
        }
        sentences.due("28 does not", run(LIMIT, 2, Words.INPUT, Words.END).receipt(0, 0), 1);
    }

    /** With nothing to pop there is no place 0 to jump to: the second round would end well. */
    private void jumpWithoutAPlace() {
        sentences.by("fewer numbers are there than it pops or looks at");
        int[] once = Words.join(Words.words(Words.push(1), Words.LOAD, Words.push(8), Words.JUMPIF), Words.store(1, 1));
        fails("JUMP", 0, Words.join(once, Words.words(Words.JUMP, Words.STOP)));
        fails("JUMPIF of one number", 0, Words.join(once, Words.words(Words.push(8), Words.JUMPIF)));
        well("JUMP to 0", 0, 20 + 16 + 42 + 4 + 16, 0,
            Words.join(Words.words(Words.push(1), Words.LOAD, Words.push(9), Words.JUMPIF), Words.store(1, 1),
                Words.words(Words.push(0), Words.JUMP, Words.STOP)));
    }

    private void theTopFirst() {
        sentences.by("then it pops what it says (the top first) and pushes its result");
        well("SUB", 0, 23, 4, Words.push(9), Words.push(5), Words.SUB, Words.RETURN);
        well("DIV", 0, 24, 3, Words.push(9), Words.push(3), Words.DIV, Words.RETURN);
        well("LESS", 0, 23, 1, Words.push(5), Words.push(9), Words.LESS, Words.RETURN);
        GasLedger x = run(LIMIT, 0, Words.push(5), Words.push(2), Words.STORE, Words.STOP);
        sentences.due("STORE: slot(1, 2)", x.slot(1, 2), 5);
        sentences.due("STORE: slot(1, 5)", x.slot(1, 5), 0);
        well("JUMPIF: the place, then x", 0, 26, 0, Words.push(0), Words.push(4), Words.JUMPIF, Words.STOP, 31);
        well("RETURN", 0, 22, 9, Words.push(5), Words.push(9), Words.RETURN);
        GasLedger y = new GasLedger();
        y.fund(0, 1000);
        y.fund(1, 50);
        Words.load(y, 1, Words.push(8), Words.push(7), Words.push(6), Words.push(40), Words.CALL);
        Words.load(y, 6, Words.CALLER, Words.LOG, Words.VALUE, Words.LOG, Words.INPUT, Words.LOG, Words.GAS, Words.LOG);
        y.begin(1, 9);
        y.send(0, 1, 0, 0);
        sentences.due("CALL with too little gas inside: block(7)", y.block(7), 0);
        y = new GasLedger();
        y.fund(0, 1000);
        y.fund(1, 50);
        Words.load(y, 1, Words.push(8), Words.push(7), Words.push(6), Words.push(42), Words.CALL);
        Words.load(y, 6, Words.CALLER, Words.LOG, Words.VALUE, Words.LOG, Words.INPUT, Words.LOG, Words.GAS, Words.LOG);
        y.begin(1, 9);
        y.send(0, 1, 0, 0);
        int[] seen = {1, 7, 8, 42 + 10 - 39 - 1};
        for (int k = 0; k < 4; k++) {
            sentences.due("CALL: log(" + k + ", 0)", y.log(k, 0), 6);
            sentences.due("CALL: log(" + k + ", 1)", y.log(k, 1), seen[k]);
        }
        sentences.due("CALL: look(6, 0)", y.look(6, 0), 7);
    }

    /** A price that is not there is found out before anything is done. */
    private void pricesKnownBeforePopping() {
        sentences.by("(The prices of STORE, CALL and CREATE are known before anything is popped");
        int[][] words = {Words.store(1, 5), Words.call(0, 2, 3, 0), Words.create(3, 0, 2)};
        int[] prices = {40, 50, 64};
        for (int k = 0; k < words.length; k++) {
            int enough = 20 + words[k].length - 1 + prices[k];
            for (int less = 0; less <= 1; less++) {
                GasLedger x = run(enough - less, 0, words[k]);
                String name = "words " + k + ", " + less + " less";
                sentences.due(name + ": status", x.receipt(0, 0), 1 - less);
                sentences.due(name + ": slot(1, 1)", x.slot(1, 1), k == 0 && less == 0 ? 5 : 0);
                sentences.due(name + ": look(1, 0)", x.look(1, 0), k > 0 && less == 0 ? 67 : 70);
                sentences.due(name + ": look(1, 1)", x.look(1, 1), k == 2 && less == 0 ? 1 : 0);
                sentences.due(name + ": look(3, 2)", x.look(3, 2), k == 2 && less == 0 ? 2 : 0);
            }
        }
    }

    private void logsOfSelf() {
        sentences.by("25 LOG [12] pops x: a log (SELF, x)");
        int[] numbers = {0, 1, -1, LEAST, GREATEST};
        for (int number : numbers) {
            GasLedger x = run(33, number, Words.INPUT, Words.LOG);
            receiptDue("LOG " + number, x, 1, 33, 0);
            sentences.due("LOG " + number + ": log(0, 0)", x.log(0, 0), 1);
            sentences.due("LOG " + number + ": log(0, 1)", x.log(0, 1), number);
            sentences.due("LOG " + number + ": receipt(0, 3)", x.receipt(0, 3), 1);
            GasLedger less = run(32, number, Words.INPUT, Words.LOG);
            receiptDue("LOG " + number + ", one gas less", less, 0, 32, 0);
            sentences.due("LOG " + number + ", one gas less: block(7)", less.block(7), 0);
        }
    }
}
