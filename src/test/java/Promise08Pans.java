/** Promise 8: pans. */
public final class Promise08Pans {
    public static void main(String[] args) {
        Check.due("nothing weighed", Check.loaded("P0500l0").pans(), 7);
        // A coin may make up for a pan, but not when they are exchanged.
        Check.due("level", Check.loaded("P0500l0wcvd.").pans(), 7);
        Check.due("level both ways", Check.loaded("P0500l0wcvd.wdvc.").pans(), 1);
        Check.due("all are true, and nothing else may be", Check.loaded("P0304l0wavb.wbva.wavc.").pans(), 1);
        // The same pan sinks both ways: it is false.
        Check.due("the left pan is false", Check.loaded("P0500t1wavb.wbva.").pans(), 2);
        Check.due("the right pan is false", Check.loaded("P0500t2wavb.wbva.").pans(), 4);
        Check.due("the left pan, or none", Check.loaded("P0500h0wavb.").pans(), 3);
        Check.due("the right pan, or none", Check.loaded("P0500l0wavb.").pans(), 5);
        Check.onlyAnswers("pans", Check.used().pans(), Check::used, y -> y.pans());
        Check.finish();
    }
}
