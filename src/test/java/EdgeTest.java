/** Each sentence of the document that names an end of what is taken, held, cut or refused has a test of its own here. */
public final class EdgeTest {
    public static void main(String[] args) {
        BankEdges.run();
        FishEdges.run();
        DrawEdges.run();
        LineEdges.run();
        MinuteEdges.run();
        BiteEdges.run();
        SlipEdges.run();
        LeagueEdges.run();
        BailiffEdges.run();
        SumsEdges.run();
        RefusalEdges.run();
        Doc.allIsTold();
        Check.end();
    }
}
