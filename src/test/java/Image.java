import java.util.function.IntUnaryOperator;
import java.util.function.Supplier;

/**
 * All that can be asked of an archive, as a text. An object is used for 512 calls alone, so the
 * questions are asked of several ones, which the same run of calls has made.
 */
final class Image {
    private static final int FORMATS = 10;
    private static final int LAWS = 5;
    private static final int CONVERTERS = 30;
    private static final int FILES = 40;

    private final StringBuilder text = new StringBuilder();
    private final Supplier<FormatVault> run;

    private Image(Supplier<FormatVault> run) {
        this.run = run;
    }

    static String of(Supplier<FormatVault> run) {
        Image image = new Image(run);
        image.askYears();
        image.askWays();
        image.askFiles();
        image.askPromises();
        image.askWhatIsBehindAnswers();
        image.moveAllAhead();
        for (int law = 0; law < LAWS; law++) {
            image.letYearsGo(law);
        }
        return image.text.toString();
    }

    private void note(String name, IntUnaryOperator question, int below) {
        text.append(name);
        for (int i = 0; i < below; i++) {
            text.append(' ');
            try {
                text.append(question.applyAsInt(i));
            } catch (IndexOutOfBoundsException e) {
                text.append('I');
            } catch (IllegalArgumentException e) {
                text.append('A');
            } catch (IllegalStateException e) {
                text.append('S');
            }
        }
        text.append('\n');
    }

    private void askYears() {
        FormatVault vault = run.get();
        note("year", i -> vault.year(), 1);
        note("left", i -> vault.left(), 1);
        note("overdue", i -> vault.overdue(), 1);
    }

    private void askWays() {
        int pairs = FORMATS * FORMATS;
        FormatVault vault = run.get();
        note("quality", i -> vault.quality(i / FORMATS, i % FORMATS), pairs);
        note("cost", i -> vault.cost(i / FORMATS, i % FORMATS), pairs);
        FormatVault all = run.get();
        note("qualityByAll", i -> all.qualityByAll(i / FORMATS, i % FORMATS), pairs);
        for (int place = 0; place < FORMATS; place++) {
            FormatVault other = run.get();
            int at = place;
            note("stepAt", i -> other.stepAt(i / FORMATS, i % FORMATS, at), pairs);
        }
    }

    private void askFiles() {
        FormatVault vault = run.get();
        note("stateOf", vault::stateOf, FILES);
        note("formatOf", vault::formatOf, FILES);
        note("qualityOf", vault::qualityOf, FILES);
        note("endOf", vault::endOf, FILES);
        note("haven", vault::haven, FILES);
        note("isSafe", i -> vault.isSafe(i) ? 1 : 0, FILES);
    }

    private void askPromises() {
        FormatVault vault = run.get();
        note("promise", i -> vault.promise(i / LAWS, i % LAWS), FORMATS * LAWS);
    }

    /** What no question tells, but the answers of calls that change something. */
    private void askWhatIsBehindAnswers() {
        FormatVault vault = run.get();
        note("read", vault::read, FILES);
        note("hold", i -> vault.hold(i, true) ? 1 : 0, FILES);
        note("setLast", i -> vault.setLast(i, FormatVault.NONE), FORMATS);
        note("setBudget", i -> vault.setBudget(7), 1);
        note("file", i -> vault.file(9, 1, i), LAWS);
        note("endOf", vault::endOf, FILES);
        note("converter", i -> vault.converter(8, 9, 0, 0), 1);
        note("withdraw", vault::withdraw, CONVERTERS);
    }

    private void moveAllAhead() {
        FormatVault vault = run.get();
        note("moveAhead", i -> vault.moveAhead(), 1);
        note("left", i -> vault.left(), 1);
        note("formatOf", vault::formatOf, FILES);
        note("qualityOf", vault::qualityOf, FILES);
        for (int first = 0; first < FILES; first += 20) {
            FormatVault other = run.get();
            int from = first;
            note("move", i -> other.move(from + i / FORMATS, i % FORMATS), FORMATS * 20);
        }
    }

    /** Behind some 50 years each number of years in which a file has to be read shows. */
    private void letYearsGo(int law) {
        FormatVault vault = run.get();
        note("file", i -> vault.file(9, 1, law), 1);
        note("hold", i -> vault.hold(i, true) ? 1 : 0, FILES);
        for (int year = 0; year < 55; year++) {
            note("begin", i -> vault.begin(), 1);
            note("overdue", i -> vault.overdue(), 1);
            note("left", i -> vault.left(), 1);
        }
        note("stateOf", vault::stateOf, FILES);
        FormatVault other = run.get();
        for (int year = 0; year < 15; year++) {
            note("begin", i -> other.begin(), 1);
            note("overdue", i -> other.overdue(), 1);
        }
        note("stateOf", other::stateOf, FILES);
    }
}
