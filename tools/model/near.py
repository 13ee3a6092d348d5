import sys,random,subprocess,os
os.environ['MODE']='simple'
sys.path.insert(0,__import__('os').path.dirname(__import__('os').path.abspath(__file__)))
import fuzz; from fuzz import *
seed=int(sys.argv[1]); n=int(sys.argv[2]); MAXN=int(sys.argv[3])
R.seed(seed)
LEAF=['num','num(-1..1)','num(0..1)','num(1..5)','text','text(a)','text(a*)','text(.)','text(a?b?)','none','{}']
def near(t):
    f,d=parse_schema(t)
    # mutate some parts
    d=list(d)
    def ms(s):
        s=[mp(p) for p in s]
        c=R.random()
        if c<.12 and len(s)<4: s.append(P(R.choice(LEAF)).part())
        elif c<.2 and len(s)>1: s.pop(R.randrange(len(s)))
        elif c<.26: s.append(R.choice(s))
        elif c<.3: R.shuffle(s)
        return tuple(s)
    def mp(p):
        k=p[0]; c=R.random()
        if k in('num','text') and c<.2: return P(R.choice(LEAF)).part()
        if k=='list':
            lo,hi=p[2],p[3]
            if c<.2: lo=min(hi,lo+1)
            elif c<.35: hi=max(lo,hi-1)
            return (k,ms(p[1]),lo,hi)
        if k=='rec':
            fs=[(a,(not o) if R.random()<.15 else o,ms(s)) for a,o,s in p[1]]
            return (k,tuple(fs))
        if k=='tag': return (k,p[1],ms(p[2]))
        if k=='map': return (k,ms(p[1]))
        return p
    return tschema([(a,ms(s)) for a,s in d])
sc=[]; exp=[]
cnt=0
from collections import Counter
C=Counter()
while cnt<n:
    t=simple(); f,d=parse_schema(t)
    if f is not None: continue
    u=near(t); f,e=parse_schema(u)
    if f is not None: continue
    m=Model(); Model.MAXN=MAXN
    def call(name,*a):
        try: r=str(getattr(m,name)(*a))
        except ISE: r='ISE'
        if name in OUTS and r!='ISE': r+=' '+m.out.hex()
        sc.append((' '.join([name]+[str(x) for x in a]),r.strip()))
        if name in OUTS: C[name+r.split()[0]]+=1
    sc.append(('N','N'))
    for x in (t,u):
        m.tape=x.encode(); sc.append(('T '+x,str(len(x)))); call('begin')
    try:
        call('witness',0,0,1,0); call('witness',1,0,0,0); call('common',0,0,1,0); 
    except RecursionError: continue
    cnt+=1
inp='\n'.join(l for l,_ in sc)+'\n'
p=subprocess.run(['java','-cp','out','Runner'],input=inp.encode('latin1'),capture_output=True)
got=p.stdout.decode('latin1').split('\n'); bad=0;bigs=0
if p.stderr: print(p.stderr.decode()[:800])
last=[]
for i,(l,e) in enumerate(sc):
    g=got[i].strip() if i<len(got) else '?'
    if l.startswith('T'): last=(last+[l])[-2:]
    if g!=e:
        if e.split()[0]=='-1' and g.split()[0].isdigit() and int(g.split()[0])>MAXN: bigs+=1; continue
        bad+=1
        if bad<6: print(last,'|',l,'got',g.split()[0],bytes.fromhex((g.split()+[''])[1]),'want',e.split()[0],bytes.fromhex((e.split()+[''])[1]))
print('checked',len(sc),'bad',bad,'bigger',bigs,sorted(C.items()))
