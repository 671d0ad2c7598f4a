import java.util.ArrayList;
import java.util.List;
import java.util.function.Consumer;
import java.util.function.ToIntFunction;

/**
 * Two ledgers with the same calls behind them. A call on one of them alone has changed nothing if both
 * show the same, and if both go on alike: so what no method shows (the terms, the time and the miner of
 * a block, the accounts before it, how many blocks were begun) is compared, too.
 */
final class Twins {
    private Twins() {
    }

    /** The call answers so and changes nothing. */
    static void nothingChanged(Sentences sentences, String name, Consumer<GasLedger> before,
            ToIntFunction<GasLedger> call, int answer) {
        same(sentences, name, before, call, answer, ledger -> { });
    }

    /** The call answers so and leaves a ledger as the other call leaves its twin. */
    static void same(Sentences sentences, String name, Consumer<GasLedger> before, ToIntFunction<GasLedger> call,
            int answer, Consumer<GasLedger> other) {
        // An accepted block shows its time, a rejected one the accounts before it.
        for (int shift = 0; shift <= 1; shift++) {
            GasLedger ledger = new GasLedger();
            GasLedger twin = new GasLedger();
            before.accept(ledger);
            before.accept(twin);
            sentences.due(name, call.applyAsInt(ledger), answer);
            other.accept(twin);
            List<String> names = new ArrayList<>();
            List<Long> got = story(ledger, shift, names);
            List<Long> want = story(twin, shift, new ArrayList<>());
            for (int k = 0; k < got.size(); k++) {
                sentences.due(name + ", then " + names.get(k), got.get(k), want.get(k));
            }
        }
    }

    /** What a ledger shows, how it goes on, and what it shows then; some 300 calls. */
    private static List<Long> story(GasLedger x, int shift, List<String> names) {
        List<Long> answers = new ArrayList<>();
        show(x, names, answers);
        goOn(x, shift, names, answers);
        show(x, names, answers);
        return answers;
    }

    private static void show(GasLedger x, List<String> names, List<Long> answers) {
        for (int account = 0; account < 16; account++) {
            for (int what = 0; what < 5; what++) {
                note("look(" + account + ", " + what + ")", x.look(account, what), names, answers);
            }
        }
        for (int what = 0; what < 8; what++) {
            note("block(" + what + ")", x.block(what), names, answers);
        }
        for (int k = 0; k < 4; k++) {
            for (int what = 0; what < 4; what++) {
                note("receipt(" + k + ", " + what + ")", x.receipt(k, what), names, answers);
            }
            note("log(" + k + ", 0)", x.log(k, 0), names, answers);
            note("log(" + k + ", 1)", x.log(k, 1), names, answers);
        }
        note("root()", x.root(), names, answers);
        note("total()", x.total(), names, answers);
    }

    private static void goOn(GasLedger x, int shift, List<String> names, List<Long> answers) {
        note("fund(13, 1)", x.fund(13, 1) ? 1 : 0, names, answers);
        note("code(13, 4)", x.code(13, 4) ? 1 : 0, names, answers);
        note("preset(13, 7, 1)", x.preset(13, 7, 1) ? 1 : 0, names, answers);
        // With no block under way a pay() would use up its terms and show nothing of them.
        boolean begun = x.block(3) == 0 && x.begin(x.block(2) + 1, 2);
        note("begin(latest + 1, 2), if none is under way", begun ? 1 : 0, names, answers);
        note("pay(0, 1, 0, 0)", x.pay(0, 1, 0, 0), names, answers);
        note("pay(0, 1, 0, 0)", x.pay(0, 1, 0, 0), names, answers);
        note("send(0, 1, 0, 0)", x.send(0, 1, 0, 0), names, answers);
        note("seal(" + shift + ")", x.seal(shift), names, answers);
        note("root()", x.root(), names, answers);
        int latest = x.block(2);
        for (int k = 0; k <= 31; k++) {
            note("begin(latest + " + k + ", 2)", x.begin(latest + k, 2) ? 1 : 0, names, answers);
            note("seal(" + shift + ")", x.seal(shift), names, answers);
        }
        note("pay(0, 1, 0, 0)", x.pay(0, 1, 0, 0), names, answers);
    }

    private static void note(String name, long answer, List<String> names, List<Long> answers) {
        names.add(name);
        answers.add(answer);
    }
}
