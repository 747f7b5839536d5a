import java.io.IOException;
import java.util.List;

/** README.md: the calls of its example answer what stands behind them, and it names every call. */
public final class ReadmeTest {
    public static void main(String[] args) throws IOException {
        List<Document.Call> calls = Document.readmeCalls();
        Due.due("the example has calls", calls.size() >= 10);
        Survey x = new Survey();
        for (Document.Call call : calls) {
            x.due(call.answer, call.name, call.arguments);
        }
        String readme = Document.readme();
        for (String line : Document.face()) {
            String name = line.replaceAll("\\(.*| = .*", "").replaceAll(".* ", "");
            Due.due("README.md names " + name, readme.matches("(?s).*\\b" + name + "\\b.*"));
        }
        Due.end();
    }
}
