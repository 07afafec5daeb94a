import java.util.Map;

/** Every act with every choice of numbers at and around the ends of ints: none throws, all are as the plain model's. */
public final class ExtremesTest {

    private static final int[] NUMBERS = {Integer.MIN_VALUE, -2, -1, 0, 1, 3, Integer.MAX_VALUE};
    private static final Dues DUES = new Dues();

    private final String[] world;
    private Script x;
    private Script plain;

    private ExtremesTest(String... world) {
        this.world = world;
        renew();
    }

    public static void main(String[] args) {
        for (String[] world : new String[][] {Worlds.EMPTY, Worlds.RICH, Worlds.FULL}) {
            ExtremesTest test = new ExtremesTest(world);
            for (Map.Entry<String, Integer> act : Script.acts().entrySet()) {
                test.askAll(act.getKey(), act.getValue());
            }
        }
        DUES.end("ExtremesTest");
    }

    private void renew() {
        x = new Script(world);
        plain = new Script(new Plain()::call, world);
    }

    private void askAll(String name, int parameters) {
        renew();
        int choices = 1;
        for (int i = 0; i < parameters; i++) {
            choices *= NUMBERS.length;
        }
        for (int choice = 0; choice < choices; choice++) {
            StringBuilder call = new StringBuilder(name).append('(');
            int rest = choice;
            for (int i = 0; i < parameters; i++) {
                call.append(i > 0 ? ", " : "").append(NUMBERS[rest % NUMBERS.length]);
                rest /= NUMBERS.length;
            }
            ask(call.append(')').toString());
        }
    }

    private void ask(String call) {
        if (x.calls() == Script.MOST_CALLS) {
            renew();
        }
        DUES.due(call, x.call(call), plain.call(call));
    }
}
