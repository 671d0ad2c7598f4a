import java.util.TreeMap;

/** Roots of all maps of slots and of accounts, against the model's, whose keys are texts. */
public final class CommitmentsTest {
    private static final Checks checks = new Checks();

    public static void main(String[] args) {
        allMapsOfSlots();
        allMapsOfAccounts();
        codeNumbers();
        checks.close();
    }

    private static String bits(int key, int width) {
        return Integer.toBinaryString(1 << width | key).substring(1);
    }

    private static void allMapsOfSlots() {
        for (int set = 0; set < 256; set++) {
            GasLedger x = new GasLedger();
            TreeMap<String, Integer> map = new TreeMap<>();
            for (int k = 0; k < 8; k++) {
                if ((set >> k & 1) != 0) {
                    int v = k % 2 == 0 ? 1000 + k : -1 - k;
                    x.preset(set & 15, k, v);
                    map.put(bits(k, 3), v);
                }
            }
            checks.due("slots " + bits(set, 8), x.look(set & 15, 3), LedgerModel.rootOf(map));
        }
    }

    private static void allMapsOfAccounts() {
        for (int set = 0; set < 65536; set++) {
            GasLedger x = new GasLedger();
            TreeMap<String, Integer> map = new TreeMap<>();
            for (int k = 0; k < 16; k++) {
                if ((set >> k & 1) != 0) {
                    x.fund(k, 1 + k);
                    map.put(bits(k, 4), x.look(k, 4));
                }
            }
            checks.due("accounts " + bits(set, 16), x.root(), LedgerModel.rootOf(map));
        }
    }

    private static void codeNumbers() {
        GasLedger x = new GasLedger();
        int number = 5;
        for (int k = 0; k < 24; k++) {
            int word = k * 123456789;
            x.code(8, word);
            number = LedgerModel.mix(number, word);
            int value = LedgerModel.mix(LedgerModel.mix(LedgerModel.mix(LedgerModel.mix(4, 0), 0), number), 0);
            checks.due("the value behind word " + k, x.look(8, 4), value);
        }
    }
}
