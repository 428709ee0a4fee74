/** All tests that name words of the document, in one run: together they name all of it. */
public final class DocumentTest {
    public static void main(String[] args) {
        FaceTest.all();
        ValuesTest.all();
        WorkTest.all();
        TokensTest.all();
        LinesTest.all();
        AmendTest.all();
        OneActsTest.all();
        TwoActsTest.all();
        AdverbsTest.all();
        PrintTest.all();
        Doc.allNamed();
        Check.end();
    }
}
