public final class Smoke { public static void main(String[] a) { if (new StepWorkbench().states() != 0) System.exit(1); } }
