/** Sentences of the document that name a bound, each with what is taken just inside it and refused just outside. */
final class Bounds {

    private final Dues dues = new Dues();
    private String sentence = "";
    private String[] world = Worlds.EMPTY;

    /** The promise (0: the terms) and the words that the rows behind hold to. */
    void says(int promise, String words) {
        sentence = promise + ": " + words;
    }

    /** The calls with which each object behind this is made. */
    void from(String[] made, String... further) {
        world = Worlds.with(made, further);
    }

    /** A new object answers so, without an error; then come further calls with their answers. */
    void takes(String call, int want, Object... further) {
        Script x = new Script(world);
        int[] told = toldBy(x);
        dues.due(sentence + ": " + call, x.call(call), want);
        int[] then = toldBy(x);
        for (int k = 0; k < told.length; k++) {
            dues.due(sentence + ": " + call + ", then told(" + (k + 1) + ")", then[k], told[k]);
        }
        ask(x, call, further);
    }

    private static int[] toldBy(Script x) {
        int[] told = new int[5];
        for (int k = 0; k < told.length; k++) {
            told[k] = x.call("told(" + (k + 1) + ")");
        }
        return told;
    }

    private void ask(Script x, String behind, Object... callsAndAnswers) {
        for (int i = 0; i + 1 < callsAndAnswers.length; i += 2) {
            String call = (String) callsAndAnswers[i];
            dues.due(sentence + ": " + behind + ", then " + call, x.call(call), callsAndAnswers[i + 1]);
        }
    }

    void refuses(String call, int error) {
        Twins.refuse(dues, sentence, world, call, error);
    }

    void end(String test) {
        dues.end(test);
    }
}
