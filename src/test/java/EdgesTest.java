/** Each sentence of the document that names a boundary, on both sides of it; Doc sees that none is left out. */
final class EdgesTest {
    public static void main(String[] args) {
        TermsEdges.run();
        SaleTermsEdges.run();
        LoanTermsEdges.run();
        WorksEdges.run();
        SalesEdges.run();
        LoansEdges.run();
        AskedEdges.run();
        Bars.run();
        Precedence.run();
        Doc.end();
        Due.end("EdgesTest");
    }
}
