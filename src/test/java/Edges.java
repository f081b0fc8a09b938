import java.util.function.IntUnaryOperator;
import java.util.function.ToIntFunction;

/** What the tests of the document's edges share: each answer belongs to a sentence of the document. */
final class Edges {
    static final int NONE = GurdyTide.NONE;
    static final int UNKNOWN = GurdyTide.UNKNOWN;
    static final int OUTSIDE = GurdyTide.OUTSIDE;
    static final int NOT = GurdyTide.NOT;
    static final int FULL = GurdyTide.FULL;

    private final Check check;
    private final Document document;
    private String heading = "";

    Edges(Check check, Document document) {
        this.check = check;
        this.document = document;
    }

    /** From here on the answers belong to this sentence, which this part of the document should have. */
    void of(String part, String sentence) {
        heading = part + ", '" + sentence + "': ";
        if (document.isThere() && !document.name(part, sentence)) {
            System.out.println("NOTICE: the document does not say " + heading);
        }
    }

    void due(String call, long got, long want) {
        check.due(heading + call, got, want);
    }

    void same(String what, String got, String want) {
        check.holds(heading + what + ": " + got + " is not " + want, got.equals(want));
    }

    /** A number is taken from least to most, and is OUTSIDE on either side. */
    void bounds(String name, int least, int most, IntUnaryOperator call) {
        taken(name, least, call);
        taken(name, most, call);
        outside(name, least - 1, call);
        outside(name, most + 1, call);
        outside(name, Integer.MIN_VALUE, call);
        outside(name, Integer.MAX_VALUE, call);
    }

    private void taken(String name, int v, IntUnaryOperator call) {
        int got = call.applyAsInt(v);
        check.holds(heading + name + " = " + v + " is taken, not " + got, got > UNKNOWN);
    }

    void outside(String name, int v, IntUnaryOperator call) {
        due(name + " = " + v, call.applyAsInt(v), OUTSIDE);
    }

    /** A thing is known from 0 to count - 1, and UNKNOWN on either side. */
    void known(String name, int count, IntUnaryOperator call) {
        for (int i = 0; i < count; i++) {
            taken(name, i, call);
        }
        for (int i : new int[] {-1, count, Integer.MIN_VALUE, Integer.MAX_VALUE}) {
            due(name + " = " + i, call.applyAsInt(i), UNKNOWN);
        }
    }

    /** As known, where NONE has a meaning of its own. */
    void knownOrNone(String name, int count, IntUnaryOperator call) {
        for (int i = -1; i < count; i++) {
            taken(name, i, call);
        }
        for (int i : new int[] {-2, count, Integer.MIN_VALUE, Integer.MAX_VALUE}) {
            due(name + " = " + i, call.applyAsInt(i), UNKNOWN);
        }
    }

    /** The text on a new object: what coast() answers, and where fault() has it. */
    void text(String text, int answer, int fault) {
        GurdyTide x = new GurdyTide();
        Check.feed(x, text);
        due("coast of '" + text + "'", x.coast(), answer);
        due("fault of '" + text + "'", x.fault(), fault);
    }

    /** The call is refused so, and nothing has changed by it. */
    void refused(String call, GurdyTide x, GurdyTide twin, ToIntFunction<GurdyTide> made, int refusal) {
        due(call, made.applyAsInt(x), refusal);
        same("behind " + call + " all is as it was", Picture.deep(x), Picture.deep(twin));
    }
}
