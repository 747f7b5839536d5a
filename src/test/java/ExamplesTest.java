import java.io.IOException;
import java.util.List;

/** The four worked examples of the document's 'Description', read from the document itself. */
public final class ExamplesTest {
    public static void main(String[] args) throws IOException {
        List<List<Document.Call>> examples = Document.examples();
        int[] lengths = examples.stream().mapToInt(List::size).toArray();
        Due.due("calls of the examples", lengths, new int[] {13, 10, 11, 10});
        for (List<Document.Call> example : examples) {
            Survey x = new Survey();
            for (Document.Call call : example) {
                x.due(call.answer, call.name, call.arguments);
            }
        }
        Due.end();
    }
}
