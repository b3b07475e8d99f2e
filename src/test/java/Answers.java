import java.util.Arrays;
import java.util.List;
import java.util.Set;
import java.util.TreeSet;

/** Which answers below 0 the document gives to each call, in the order of the face. */
final class Answers {
    static final List<String> NAMES = List.of("REFUSED", "NONE", "FULL", "DENIED", "LOCKED", "BROKEN", "WRONG");

    private static final String[] ROWS = {
        "feed FULL", "end REFUSED", "octet NONE", "back FULL", "hash", "key",
        "extend REFUSED", "reset REFUSED", "state", "quote REFUSED",
        "open REFUSED", "policyState REFUSED", "policyAuth REFUSED", "policyCode REFUSED", "policyTime REFUSED",
        "policyOr REFUSED WRONG", "digest REFUSED",
        "seal REFUSED", "load FULL BROKEN", "unseal REFUSED NONE DENIED LOCKED WRONG", "flush NONE",
        "define REFUSED NONE DENIED LOCKED", "undefine NONE DENIED LOCKED",
        "write REFUSED NONE FULL DENIED LOCKED WRONG", "count REFUSED NONE FULL DENIED LOCKED WRONG",
        "chain REFUSED NONE FULL DENIED LOCKED WRONG", "read REFUSED NONE FULL DENIED LOCKED WRONG",
        "shut REFUSED NONE DENIED LOCKED WRONG",
        "own DENIED LOCKED", "unlock DENIED", "clear DENIED LOCKED", "tick REFUSED", "restart", "look REFUSED"
    };

    private Answers() {
    }

    /** A name's number in the face: the first is -1. */
    static int number(String name) {
        return -1 - NAMES.indexOf(name);
    }

    static int calls() {
        return ROWS.length;
    }

    static String call(int i) {
        return ROWS[i].split(" ")[0];
    }

    static Set<String> of(int i) {
        String[] words = ROWS[i].split(" ");
        return new TreeSet<>(Arrays.asList(words).subList(1, words.length));
    }

    static Set<String> callsThatAnswer(String name) {
        Set<String> calls = new TreeSet<>();
        for (int i = 0; i < calls(); i++) {
            if (of(i).contains(name)) {
                calls.add(call(i));
            }
        }
        return calls;
    }
}
