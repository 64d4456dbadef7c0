/** The document from its first line to its last: each sentence, and calls that show that it holds. */
public final class DocumentTest {
    public static void main(String[] args) throws Exception {
        Check check = new Check();
        new Script(check).runFile("src/test/runs/DOCUMENT.txt");
        check.end("DocumentTest");
    }
}
